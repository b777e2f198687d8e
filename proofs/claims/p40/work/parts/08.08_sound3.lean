section
theorem WS_aB : Jvm.Cond.arrayClass .byte ∈ WS := WS_t2 125 (by eq_refl) (by eq_refl)
theorem WS_ac1 : Jvm.Cond.native acN ∈ WS := WS_t3 43 (by eq_refl) (by eq_refl)
theorem WS_ac2 : Jvm.Cond.static acN ∈ WS := WS_t3 42 (by eq_refl) (by eq_refl)
theorem WS_ac3 : Jvm.Cond.initialized "java/lang/System" ∈ WS := WS_t1 9 (by eq_refl) (by eq_refl)
theorem STG_ge : ∀ q ∈ STG, 20 ≤ q.1 := by decide
theorem STT_lt : ∀ q ∈ STT, q.1 < 10 := by decide
theorem ICL_ge : ∀ q ∈ ICL, 30 ≤ q.1 := by decide
theorem WS_mm : Jvm.Cond.initialized "java/lang/Math" ∈ WS := WS_t1 7 (by eq_refl) (by eq_refl)
theorem WS_mmax1 : Jvm.Cond.static Lib.Math.max.name ∈ WS := WS_t3 21 (by eq_refl) (by eq_refl)
theorem WS_mmax2 : Jvm.Cond.code Lib.Math.max.name Lib.Math.max.code 2 (some .int) ∈ WS := WS_t3 22 (by eq_refl) (by eq_refl)
theorem WS_mmin1 : Jvm.Cond.static Lib.Math.min.name ∈ WS := WS_t3 39 (by eq_refl) (by eq_refl)
theorem WS_mmin2 : Jvm.Cond.code Lib.Math.min.name Lib.Math.min.code 2 (some .int) ∈ WS := WS_t3 40 (by eq_refl) (by eq_refl)
theorem WS_mabs1 : Jvm.Cond.static Lib.Math.abs.name ∈ WS := WS_t2 237 (by eq_refl) (by eq_refl)
theorem WS_mabs2 : Jvm.Cond.code Lib.Math.abs.name Lib.Math.abs.code 1 (some .int) ∈ WS := WS_t2 238 (by eq_refl) (by eq_refl)
abbrev clN : MethodName := ⟨"java/lang/Object", "clone", "()Ljava/lang/Object;"⟩
theorem WS_cl1 : Jvm.Cond.sameMethod "[B" "java/lang/Object" "clone" "()Ljava/lang/Object;" ∈ WS := WS_t3 32 (by eq_refl) (by eq_refl)
theorem WS_cl2 : Jvm.Cond.native clN ∈ WS := WS_t3 33 (by eq_refl) (by eq_refl)
theorem WS_cl3 : Jvm.Cond.instanceMethod clN ∈ WS := WS_t3 34 (by eq_refl) (by eq_refl)
theorem WS_cl4 : Jvm.Cond.selects "[B" ⟨"[B", "clone", "()Ljava/lang/Object;"⟩ clN ∈ WS := WS_t3 35 (by eq_refl) (by eq_refl)
theorem WS_gc1 : Jvm.Cond.selects "[Ljava/lang/Object;" gcN gcN ∈ WS := WS_t7 198 (by eq_refl) (by eq_refl)
theorem WS_gc2 : Jvm.Cond.instanceMethod gcN ∈ WS := WS_t5 152 (by eq_refl) (by eq_refl)
theorem WS_gc3 : Jvm.Cond.native gcN ∈ WS := WS_t5 165 (by eq_refl) (by eq_refl)
theorem NW_gc : Jvm.Cond.declares gcN ∈ lw_tbl := tm_7 (List.mem_of_getElem? (i := 199) (by eq_refl))
theorem any_row {G : GT} {s : State} {H : Heap} {ws : va_W} {w : Hw} (hK : gK G s) (hg : GBg G s) (hP : va_P (gD G) vwCl ws H) (hBw : hB G w ws) {y : Nat} (h : gl (w y) 0 fun _ _ => True) : va_Any "java/lang/Object" s H y := by
  replace h := gl_inv h
  obtain ⟨N, f, hw, -⟩ := h
  obtain ⟨kk, hkk⟩ := hBw y _ hw
  have hat := hP kk _ hkk
  have hra : s.vm.findClass "[J" = some (G.2.2.1 0) := ((show va_K (gD G) vwCl (gTys G) s from hK).2 0 _ rfl).2
  obtain ⟨c1, c2, f1, f2, f3⟩ := Cond.castable_spec (va_Nw.use (A := #[]) rfl (hg.2.2.2.1 ("[J", "java/lang/Object") (by decide)))
  obtain ⟨k1, hk1, -⟩ := Vm.findClass_spec f1
  cases hra.symm.trans f1
  exact ⟨_, hat, rfl, ⟨k1, hk1⟩, fun comp hc => by cases f2.symm.trans hc; exact f3⟩
section CPB
variable {p : Program} {l : Launch} {e : Env} {R : Room} {s : State} {m : MethodId} {args : Array Value} {below : List Frame} {meth : Method} {c : Code} {H : Heap} {locs : List Loc} {cells slots : Nat} {Q : State → Prop}
variable {cc : ByteArray} {pc : Nat} {ls : Array Slot} {rest : List Value} {D : va_G} {A : Nat → Prop} {tys : List (ClassId × FieldType)} {ws : va_W} {H0 : Heap}
theorem cl_nat {z : Int32} (h : ¬ z < 0) : z.toInt = (z.toNatClampNeg : Int) := (Int.toNat_of_nonneg (by have h9 := Int32.le_iff_toInt_le.mp (Int32.not_lt.mp h); simpa using h9)).symm
/-- bytes copied into a cell of ours out of any array of bytes that stands -/
theorem cpB_read (hx : p.tables.exec = Jvm.exec) (hb : c.code = cc) (hml : c.maxLocals = ls.size) {own : String} {i : Nat} (hown : s.vm.findClass own = some m.cls) (h1 : (Jvm.Cond.methodLink own i arraycopyName).before args s = true) (h2 : (Jvm.Cond.native arraycopyName).before args s = true) (h3 : (Jvm.Cond.static arraycopyName).before args s = true) (h4 : (Jvm.Cond.initialized "java/lang/System").before args s = true)
    (hK : va_K D vwCl tys s) {a b : Nat} {cB : ClassId} {n0 n1 : Nat} {f g : Nat → Int32} (hat : va_at D vwCl (a, .inl (cB, n0, .inl f)) H) (hP : va_P D vwCl ws H) (hD : va_D A ws) (hS : va_S A H0 H locs) (kd t : Nat) (hkd : ws[kd]? = some (b, .inl (cB, n1, .inl g))) (ht : tys[t]? = some (cB, .byte))
    {x y z : Int32} (hx0 : ¬ x < 0) (hy0 : ¬ y < 0) (hz0 : ¬ z < 0) (hxn : x.toNatClampNeg + z.toNatClampNeg ≤ n0) (hyn : y.toNatClampNeg + z.toNatClampNeg ≤ n1) (hf : ∀ j, j < z.toNatClampNeg → fits .byte (.int (f (x.toNatClampNeg + j))) = true)
    (hfr : 1 ≤ R.frames) (hlo : (rest.map fun v => v.category).sum + (nativeFrameWords "java/lang/System" "arraycopy" 5 + 11) ≤ R.locals) (hd : decode cc pc = .ok (.invokestatic i, 3))
    (kk : ∀ (H1 : Heap) (locs1 : List Loc), va_P D vwCl (ws.set kd (b, .inl (cB, n1, .inl (va_cpy f g x.toNatClampNeg y.toNatClampNeg z.toNatClampNeg)))) H1 → va_D A (ws.set kd (b, .inl (cB, n1, .inl (va_cpy f g x.toNatClampNeg y.toNatClampNeg z.toNatClampNeg)))) → va_S A H0 H1 locs1 → W p l e R s m args below meth c H1 locs1 cells slots Q (F0 m (pc + 3) ls rest)) :
    W p l e R s m args below meth c H locs cells slots Q (F0 m pc ls (.int z :: .int y :: .ref b :: .int x :: .ref a :: rest)) := by
  intro T hT X
  have hA : A b := hD.2 kd _ hkd
  have e0 : H[a]? = some (vp_cell cB (n0, .inl f)) := hat
  have e1 : H[b]? = some (vp_cell cB (n1, .inl g)) := hP kd _ hkd
  have hsz : ∀ (N : Nat) (q : Nat → Int32), (vp_cell cB (N, .inl q)).slots.size = N := fun N q => arrV_size _ _ _
  obtain ⟨-, k0, hk0, cm0, hc0⟩ := (hK.2 t _ ht).1 n0 (fun j => .int (f j))
  obtain ⟨-, k1, hk1, cm1, hc1⟩ := (hK.2 t _ ht).1 n1 (fun j => .int (g j))
  obtain ⟨vm', X', st⟩ := X.arraycopy hx hown h1 h2 h3 h4 (src := a) (dst := b) (cs := vp_cell cB (n0, .inl f)) (cd := vp_cell cB (n1, .inl g)) (srcPos := x) (destPos := y) (n := z) (by rw [hT]; exact e0) (by rw [hT]; exact e1)
    (fun _ h => by cases h) (fun _ h => by cases h) (fun h => by cases h) (fun h => by cases h) hk0 hk1 hc0 hc1 (by simp [refKind]) hx0 hy0 hz0
    (by rw [cl_nat hx0, cl_nat hz0, hsz]; omega) (by rw [cl_nat hy0, cl_nat hz0, hsz]; omega)
    (fun vm₁ _ j hj => by
      have e : (vp_cell cB (n0, .inl f)).slots.getD (x.toNatClampNeg + j) .null = .int (f (x.toNatClampNeg + j)) := by
        rw [Array.getD_eq_getD_getElem?, show (vp_cell cB (n0, .inl f)).slots[x.toNatClampNeg + j]? = some (.int (f (x.toNatClampNeg + j))) from arrV_read _ _ (by omega)]
        rfl
      rw [e]
      exact ⟨hf j hj, trivial⟩)
    (g := F0 m pc ls (.int z :: .int y :: .ref b :: .int x :: .ref a :: rest)) rfl (by rw [hml]) (rest := rest) rfl (by rw [hb]; exact hd) hfr (by show 2 * 0 + _ + _ ≤ _; omega)
  have e2 : copied (vp_cell cB (n0, .inl f)) (vp_cell cB (n1, .inl g)) x y z = vp_cell cB (n1, .inl (va_cpy f g x.toNatClampNeg y.toNatClampNeg z.toNatClampNeg)) := va_copied (fun v => .int v) cB cB f g hxn
  rw [e2] at X' st
  generalize hN : vp_cell cB (n1, .inl (va_cpy f g x.toNatClampNeg y.toNatClampNeg z.toNatClampNeg)) = cN at X' st
  have hl : b < H.size := (Array.getElem?_eq_some_iff.mp e1).1
  have hh : ((T.setVm vm').setCell b cN).heap = H.setIfInBounds b cN := by rw [← hT]; rfl
  have oq : ∀ q : Nat, q ≠ b → (H.setIfInBounds b cN)[q]? = H[q]? := fun q hq => by simp [Array.getElem?_setIfInBounds, Ne.symm hq]
  have hself : (H.setIfInBounds b cN)[b]? = some cN := by simp [Array.getElem?_setIfInBounds, hl]
  obtain ⟨t2, a1, b1⟩ := kk _ _ (hP.set hD hkd (by subst hN; exact hself) oq) (hD.set hkd) ⟨by simp; exact hS.1, fun q g1 g2 => by
    rw [oq q (fun h => g2 (h ▸ hA))]
    exact hS.2.1 q g1 g2, fun q hq => by
    rcases List.mem_append.mp hq with h | h
    · exact hS.2.2 q h
    · obtain ⟨v, -, hv⟩ := List.mem_map.mp h
      rw [← hv]
      exact hA⟩ _ hh X'
  exact ⟨t2, st t2 a1, b1⟩
end CPB
/-- what is new is not read by anyone yet -/
theorem fresh_at {G : GT} {M : MT} {s : State} {w : Hw} {ws : va_W} (hg0 : M.g = gg G) (hg : GBg G s) (hBw : hB G w ws) {q : Nat} {o : Ob} (hD : va_D (gA G) (ws ++ [(q, obE G o)])) : rd M.g w q = none ∧ hB G (upw w q o) (ws ++ [(q, obE G o)]) := by
  obtain ⟨g1, g2⟩ := hBw.push (o := o) hD
  refine ⟨?_, g2⟩
  unfold rd
  rw [g1, hg0]
  dsimp only
  cases hz : (gg G).2 q with
  | none => rfl
  | some o2 => exact absurd (hD.2 ws.length (q, obE G o) (by simp)) (hg.2.2.2.2.2.2.2.2.2 q o2 hz).2
section SND3
variable {p : Program} {l : Launch} {e : Env} {s : State} {m : MethodId} {args : Array Value} {below : List Frame} {meth : Method} {c : Code} {G : GT} {M : MT} {Q : Ot → Hw → Prop}
variable {L : List (Option Value)} {st : List Value} {w : Hw} {k n pc : Nat}
set_option maxHeartbeats 8000000 in
theorem snd_I (C0 : Cx p l s m args meth c G M) (hV : vM l G M) {i : Instr} {len : Nat} (hd0 : decode M.code pc = .ok (i, len)) (hl0 : ilen i = 0 ∨ ilen i = len)
    (h : nxI M Q i len pc L st w k n (XS p l e s m args below meth c G M Q)) : XS p l e s m args below meth c G M Q (pc, L, st, w, k, n) := by
  have hC := C0
  obtain ⟨hx, hb, hml, hr, hown, hts, hlocks, hK, hz, hg, hst, hex, hin⟩ := id C0
  have hd1 : ilen i ≠ 0 → decode M.code pc = .ok (i, ilen i) := lenfix hd0 hl0
  have hA : ∀ q, s.heap.size ≤ q → gA G q := fun q h => Nat.le_trans hz h
  have hK' : va_K (gD G) vwCl (gTys G) s := hK
  have hg0 : M.g = gg G := hV.2.2.2.2.2.2.2.2.2.2.1
  cases i with
  | iconst v => dsimp only [nxI] at h; intro H ws locs ls hP hD hBw hS hL hsz; exact lv_iconst hx hb (hd1 (by simp [ilen])) rfl (h H ws locs ls hP hD hBw hS hL hsz)
  | lconst v => dsimp only [nxI] at h; intro H ws locs ls hP hD hBw hS hL hsz; exact lv_lconst hx hb (hd1 (by simp [ilen])) rfl (h H ws locs ls hP hD hBw hS hL hsz)
  | bipush v => dsimp only [nxI] at h; intro H ws locs ls hP hD hBw hS hL hsz; exact lv_bipush hx hb (hd1 (by simp [ilen])) rfl (h H ws locs ls hP hD hBw hS hL hsz)
  | sipush v => dsimp only [nxI] at h; intro H ws locs ls hP hD hBw hS hL hsz; exact lv_sipush hx hb (hd1 (by simp [ilen])) rfl (h H ws locs ls hP hD hBw hS hL hsz)
  | aconst_null => dsimp only [nxI] at h; intro H ws locs ls hP hD hBw hS hL hsz; exact lv_null hx hb (hd1 (by simp [ilen])) (h H ws locs ls hP hD hBw hS hL hsz)
  | iload i => dsimp only [nxI] at h; replace h := ldI_inv h; obtain ⟨x, h1, h⟩ := h; intro H ws locs ls hP hD hBw hS hL hsz; exact lv_iload hx hb (hd1 (by simp [ilen])) (hL.2.2 _ _ h1) (h H ws locs ls hP hD hBw hS hL hsz)
  | iload_n i => dsimp only [nxI] at h; replace h := ldI_inv h; obtain ⟨x, h1, h⟩ := h; intro H ws locs ls hP hD hBw hS hL hsz; exact lv_iload_n hx hb (hd1 (by simp [ilen])) rfl (hL.2.2 _ _ h1) (h H ws locs ls hP hD hBw hS hL hsz)
  | lload i => dsimp only [nxI] at h; replace h := ldL_inv h; obtain ⟨x, h1, h⟩ := h; intro H ws locs ls hP hD hBw hS hL hsz; exact lv_lload hx hb (hd1 (by simp [ilen])) (hL.2.2 _ _ h1) (h H ws locs ls hP hD hBw hS hL hsz)
  | lload_n i => dsimp only [nxI] at h; replace h := ldL_inv h; obtain ⟨x, h1, h⟩ := h; intro H ws locs ls hP hD hBw hS hL hsz; exact lv_lload_n hx hb (hd1 (by simp [ilen])) rfl (hL.2.2 _ _ h1) (h H ws locs ls hP hD hBw hS hL hsz)
  | aload i =>
    dsimp only [nxI] at h
    replace h := ldA_inv h; rcases h with ⟨x, h1, h⟩ | ⟨h1, h⟩ <;> intro H ws locs ls hP hD hBw hS hL hsz
    · exact lv_aload hx hb (hd1 (by simp [ilen])) (hL.2.2 _ _ h1) (h H ws locs ls hP hD hBw hS hL hsz)
    · exact lv_aloadN hx hb (hd1 (by simp [ilen])) (hL.2.2 _ _ h1) (h H ws locs ls hP hD hBw hS hL hsz)
  | aload_n i =>
    dsimp only [nxI] at h
    replace h := ldA_inv h; rcases h with ⟨x, h1, h⟩ | ⟨h1, h⟩ <;> intro H ws locs ls hP hD hBw hS hL hsz
    · exact lv_aload_n hx hb (hd1 (by simp [ilen])) rfl (hL.2.2 _ _ h1) (h H ws locs ls hP hD hBw hS hL hsz)
    · exact lv_aload_nN hx hb (hd1 (by simp [ilen])) rfl (hL.2.2 _ _ h1) (h H ws locs ls hP hD hBw hS hL hsz)
  | istore i =>
    dsimp only [nxI] at h
    replace h := sI_inv h; obtain ⟨x, r, rfl, h1, h⟩ := h
    intro H ws locs ls hP hD hBw hS hL hsz
    exact lv_istore hx hb (hd1 (by simp [ilen])) hL.has h1 rfl fun ls' hl' => h H ws locs ls' hP hD hBw hS (LOK.st1 h1 hl') (hl'.1.trans (hL.1.symm.trans hsz))
  | istore_n i =>
    dsimp only [nxI] at h
    replace h := sI_inv h; obtain ⟨x, r, rfl, h1, h⟩ := h
    intro H ws locs ls hP hD hBw hS hL hsz
    exact lv_istore_n hx hb (hd1 (by simp [ilen])) rfl hL.has h1 rfl fun ls' hl' => h H ws locs ls' hP hD hBw hS (LOK.st1 h1 hl') (hl'.1.trans (hL.1.symm.trans hsz))
  | lstore i =>
    dsimp only [nxI] at h
    replace h := sL_inv h; obtain ⟨x, r, rfl, h1, h⟩ := h
    intro H ws locs ls hP hD hBw hS hL hsz
    exact lv_lstore hx hb (hd1 (by simp [ilen])) hL.has h1 rfl fun ls' hl' => h H ws locs ls' hP hD hBw hS (LOK.st2 h1 hl') (hl'.1.trans (hL.1.symm.trans hsz))
  | lstore_n i =>
    dsimp only [nxI] at h
    replace h := sL_inv h; obtain ⟨x, r, rfl, h1, h⟩ := h
    intro H ws locs ls hP hD hBw hS hL hsz
    exact lv_lstore_n hx hb (hd1 (by simp [ilen])) rfl hL.has h1 rfl fun ls' hl' => h H ws locs ls' hP hD hBw hS (LOK.st2 h1 hl') (hl'.1.trans (hL.1.symm.trans hsz))
  | astore i =>
    dsimp only [nxI] at h
    replace h := sA_inv h; rcases h with ⟨x, r, rfl, h1, h⟩ | ⟨r, rfl, h1, h⟩ <;> intro H ws locs ls hP hD hBw hS hL hsz
    · exact lv_astore hx hb (hd1 (by simp [ilen])) hL.has h1 rfl fun ls' hl' => h H ws locs ls' hP hD hBw hS (LOK.st1 h1 hl') (hl'.1.trans (hL.1.symm.trans hsz))
    · exact lv_astoreN hx hb (hd1 (by simp [ilen])) hL.has h1 rfl fun ls' hl' => h H ws locs ls' hP hD hBw hS (LOK.st1 h1 hl') (hl'.1.trans (hL.1.symm.trans hsz))
  | astore_n i =>
    dsimp only [nxI] at h
    replace h := sA_inv h; rcases h with ⟨x, r, rfl, h1, h⟩ | ⟨r, rfl, h1, h⟩ <;> intro H ws locs ls hP hD hBw hS hL hsz
    · exact lv_astore_n hx hb (hd1 (by simp [ilen])) rfl hL.has h1 rfl fun ls' hl' => h H ws locs ls' hP hD hBw hS (LOK.st1 h1 hl') (hl'.1.trans (hL.1.symm.trans hsz))
    · exact lv_astore_nN hx hb (hd1 (by simp [ilen])) rfl hL.has h1 rfl fun ls' hl' => h H ws locs ls' hP hD hBw hS (LOK.st1 h1 hl') (hl'.1.trans (hL.1.symm.trans hsz))
  | iinc i d =>
    dsimp only [nxI] at h
    replace h := ldI_inv h; obtain ⟨x, h1, h2, x', e1, h⟩ := h
    cases e1
    intro H ws locs ls hP hD hBw hS hL hsz
    obtain ⟨kk, hkk⟩ := List.getElem?_of_mem (lvL_in.mpr h1)
    exact lv_iinc hx hb (hd1 (by simp [ilen])) hL.has hkk rfl h2 rfl fun ls' hl' => h H ws locs ls' hP hD hBw hS (LOK.st1 h2 hl') (hl'.1.trans (hL.1.symm.trans hsz))
  | pop => dsimp only [nxI] at h; replace h := sV_inv h; obtain ⟨v, r, rfl, h1, h⟩ := h; intro H ws locs ls hP hD hBw hS hL hsz; exact lv_pop hx hb (hd1 (by simp [ilen])) h1 (h H ws locs ls hP hD hBw hS hL hsz)
  | pop2 => dsimp only [nxI] at h; replace h := sV_inv h; obtain ⟨v, r, rfl, h1, h⟩ := h; intro H ws locs ls hP hD hBw hS hL hsz; exact lv_pop2_2 hx hb (hd1 (by simp [ilen])) h1 (h H ws locs ls hP hD hBw hS hL hsz)
  | dup => dsimp only [nxI] at h; replace h := sV_inv h; obtain ⟨v, r, rfl, h1, h⟩ := h; intro H ws locs ls hP hD hBw hS hL hsz; exact lv_dup hx hb (hd1 (by simp [ilen])) h1 (h H ws locs ls hP hD hBw hS hL hsz)
  | dup_x1 =>
    dsimp only [nxI] at h
    replace h := sV_inv h; obtain ⟨v, r, rfl, h⟩ := h
    replace h := sV_inv h; obtain ⟨u, r, rfl, h1, h2, h⟩ := h
    intro H ws locs ls hP hD hBw hS hL hsz; exact lv_dup_x1 hx hb (hd1 (by simp [ilen])) h1 h2 (h H ws locs ls hP hD hBw hS hL hsz)
  | iadd => dsimp only [nxI] at h; replace h := sI_inv h; obtain ⟨b, r, rfl, h⟩ := h; replace h := sI_inv h; obtain ⟨a, r, rfl, h⟩ := h; intro H ws locs ls hP hD hBw hS hL hsz; exact lv_iadd hx hb (hd1 (by simp [ilen])) (h H ws locs ls hP hD hBw hS hL hsz)
  | isub => dsimp only [nxI] at h; replace h := sI_inv h; obtain ⟨b, r, rfl, h⟩ := h; replace h := sI_inv h; obtain ⟨a, r, rfl, h⟩ := h; intro H ws locs ls hP hD hBw hS hL hsz; exact lv_isub hx hb (hd1 (by simp [ilen])) (h H ws locs ls hP hD hBw hS hL hsz)
  | imul => dsimp only [nxI] at h; replace h := sI_inv h; obtain ⟨b, r, rfl, h⟩ := h; replace h := sI_inv h; obtain ⟨a, r, rfl, h⟩ := h; intro H ws locs ls hP hD hBw hS hL hsz; exact lv_imul hx hb (hd1 (by simp [ilen])) (h H ws locs ls hP hD hBw hS hL hsz)
  | iand => dsimp only [nxI] at h; replace h := sI_inv h; obtain ⟨b, r, rfl, h⟩ := h; replace h := sI_inv h; obtain ⟨a, r, rfl, h⟩ := h; intro H ws locs ls hP hD hBw hS hL hsz; exact lv_iand hx hb (hd1 (by simp [ilen])) (h H ws locs ls hP hD hBw hS hL hsz)
  | ior => dsimp only [nxI] at h; replace h := sI_inv h; obtain ⟨b, r, rfl, h⟩ := h; replace h := sI_inv h; obtain ⟨a, r, rfl, h⟩ := h; intro H ws locs ls hP hD hBw hS hL hsz; exact lv_ior hx hb (hd1 (by simp [ilen])) (h H ws locs ls hP hD hBw hS hL hsz)
  | ishl => dsimp only [nxI] at h; replace h := sI_inv h; obtain ⟨b, r, rfl, h⟩ := h; replace h := sI_inv h; obtain ⟨a, r, rfl, h⟩ := h; intro H ws locs ls hP hD hBw hS hL hsz; exact lv_ishl hx hb (hd1 (by simp [ilen])) (h H ws locs ls hP hD hBw hS hL hsz)
  | ineg => dsimp only [nxI] at h; replace h := sI_inv h; obtain ⟨a, r, rfl, h⟩ := h; intro H ws locs ls hP hD hBw hS hL hsz; exact lv_ineg hx hb (hd1 (by simp [ilen])) (h H ws locs ls hP hD hBw hS hL hsz)
  | idiv => dsimp only [nxI] at h; replace h := sI_inv h; obtain ⟨b, r, rfl, h⟩ := h; replace h := sI_inv h; obtain ⟨a, r, rfl, h1, h⟩ := h; intro H ws locs ls hP hD hBw hS hL hsz; exact lv_idiv hx hb (hd1 (by simp [ilen])) h1 (h H ws locs ls hP hD hBw hS hL hsz)
  | ladd => dsimp only [nxI] at h; replace h := sL_inv h; obtain ⟨b, r, rfl, h⟩ := h; replace h := sL_inv h; obtain ⟨a, r, rfl, h⟩ := h; intro H ws locs ls hP hD hBw hS hL hsz; exact lv_ladd hx hb (hd1 (by simp [ilen])) (h H ws locs ls hP hD hBw hS hL hsz)
  | lsub => dsimp only [nxI] at h; replace h := sL_inv h; obtain ⟨b, r, rfl, h⟩ := h; replace h := sL_inv h; obtain ⟨a, r, rfl, h⟩ := h; intro H ws locs ls hP hD hBw hS hL hsz; exact lv_lsub hx hb (hd1 (by simp [ilen])) (h H ws locs ls hP hD hBw hS hL hsz)
  | lmul => dsimp only [nxI] at h; replace h := sL_inv h; obtain ⟨b, r, rfl, h⟩ := h; replace h := sL_inv h; obtain ⟨a, r, rfl, h⟩ := h; intro H ws locs ls hP hD hBw hS hL hsz; exact lv_lmul hx hb (hd1 (by simp [ilen])) (h H ws locs ls hP hD hBw hS hL hsz)
  | land => dsimp only [nxI] at h; replace h := sL_inv h; obtain ⟨b, r, rfl, h⟩ := h; replace h := sL_inv h; obtain ⟨a, r, rfl, h⟩ := h; intro H ws locs ls hP hD hBw hS hL hsz; exact lv_land hx hb (hd1 (by simp [ilen])) (h H ws locs ls hP hD hBw hS hL hsz)
  | lor => dsimp only [nxI] at h; replace h := sL_inv h; obtain ⟨b, r, rfl, h⟩ := h; replace h := sL_inv h; obtain ⟨a, r, rfl, h⟩ := h; intro H ws locs ls hP hD hBw hS hL hsz; exact lv_lor hx hb (hd1 (by simp [ilen])) (h H ws locs ls hP hD hBw hS hL hsz)
  | ldiv => dsimp only [nxI] at h; replace h := sL_inv h; obtain ⟨b, r, rfl, h⟩ := h; replace h := sL_inv h; obtain ⟨a, r, rfl, h1, h⟩ := h; intro H ws locs ls hP hD hBw hS hL hsz; exact lv_ldiv hx hb (hd1 (by simp [ilen])) h1 (h H ws locs ls hP hD hBw hS hL hsz)
  | lrem => dsimp only [nxI] at h; replace h := sL_inv h; obtain ⟨b, r, rfl, h⟩ := h; replace h := sL_inv h; obtain ⟨a, r, rfl, h1, h⟩ := h; intro H ws locs ls hP hD hBw hS hL hsz; exact lv_lrem hx hb (hd1 (by simp [ilen])) h1 (h H ws locs ls hP hD hBw hS hL hsz)
  | lshl => dsimp only [nxI] at h; replace h := sI_inv h; obtain ⟨b, r, rfl, h⟩ := h; replace h := sL_inv h; obtain ⟨a, r, rfl, h⟩ := h; intro H ws locs ls hP hD hBw hS hL hsz; exact lv_lshl hx hb (hd1 (by simp [ilen])) rfl (h H ws locs ls hP hD hBw hS hL hsz)
  | lshr => dsimp only [nxI] at h; replace h := sI_inv h; obtain ⟨b, r, rfl, h⟩ := h; replace h := sL_inv h; obtain ⟨a, r, rfl, h⟩ := h; intro H ws locs ls hP hD hBw hS hL hsz; exact lv_lshr hx hb (hd1 (by simp [ilen])) rfl (h H ws locs ls hP hD hBw hS hL hsz)
  | i2l => dsimp only [nxI] at h; replace h := sI_inv h; obtain ⟨a, r, rfl, h⟩ := h; intro H ws locs ls hP hD hBw hS hL hsz; exact lv_i2l hx hb (hd1 (by simp [ilen])) rfl (h H ws locs ls hP hD hBw hS hL hsz)
  | l2i => dsimp only [nxI] at h; replace h := sL_inv h; obtain ⟨a, r, rfl, h⟩ := h; intro H ws locs ls hP hD hBw hS hL hsz; exact lv_l2i hx hb (hd1 (by simp [ilen])) rfl (h H ws locs ls hP hD hBw hS hL hsz)
  | ishr => dsimp only [nxI] at h; replace h := sI_inv h; obtain ⟨b, r, rfl, h⟩ := h; replace h := sI_inv h; obtain ⟨a, r, rfl, h⟩ := h; intro H ws locs ls hP hD hBw hS hL hsz; exact lv_ishr hx hb (hd1 (by simp [ilen])) (h H ws locs ls hP hD hBw hS hL hsz)
  | i2b => dsimp only [nxI] at h; replace h := sI_inv h; obtain ⟨a, r, rfl, h⟩ := h; intro H ws locs ls hP hD hBw hS hL hsz; exact lv_i2b hx hb (hd1 (by simp [ilen])) rfl (h H ws locs ls hP hD hBw hS hL hsz)
  | lneg => dsimp only [nxI] at h; replace h := sL_inv h; obtain ⟨a, r, rfl, h⟩ := h; intro H ws locs ls hP hD hBw hS hL hsz; exact lv_lneg hx hb (hd1 (by simp [ilen])) (h H ws locs ls hP hD hBw hS hL hsz)
  | getstatic i =>
    dsimp only [nxI] at h
    replace h := lk_inv h; obtain ⟨j, hj, h0, h⟩ := h
    intro H ws locs ls hP hD hBw hS hL hsz
    rcases hV.2.2.2.2.2.2.2.1 i j hj with ⟨C, n', d', g1, g2⟩ | ⟨tx, g1⟩ | ⟨g1, -⟩ | ⟨g1, -⟩ | ⟨v, g1, -⟩ | ⟨g1, -⟩ | ⟨g1, -⟩ | ⟨g1, -⟩ | ⟨g1, -⟩
    · have hz9 := hg.2.2.2.2.2.2.2.1 _ g1
      rw [hg0] at h
      exact va_gets hx hb hz9 hS hown (hts _ g2) (fun _ h => h) (hd1 (by simp [ilen])) (h H ws locs ls hP hD hBw hS hL hsz)
    · exact absurd (STG_ge _ g1) (by show ¬ 20 ≤ j; omega)
    · omega
    · omega
    · exact absurd (ICL_ge _ g1) (by show ¬ 30 ≤ j; omega)
    · omega
    · omega
    · omega
    · omega
  | ldc i =>
    dsimp only [nxI] at h
    replace h := lk_inv h; obtain ⟨j, hj, h0, h⟩ := h
    intro H ws locs ls hP hD hBw hS hL hsz
    rcases hV.2.2.2.2.2.2.2.1 i j hj with ⟨C, n', d', g1, g2⟩ | ⟨tx, g1⟩ | ⟨g1, g2⟩ | ⟨g1, -⟩ | ⟨v, g1, g2⟩ | ⟨g1, -⟩ | ⟨g1, -⟩ | ⟨g1, -⟩ | ⟨g1, -⟩
    · exact absurd (STT_lt _ g1) (by show ¬ j < 10; omega)
    · obtain ⟨sa, e1, e2⟩ := hg.2.2.2.2.2.2.2.2.1 _ g1
      rw [hg0, e1] at h
      exact va_ldcS hx hb hown e2 (hd1 (by simp [ilen])) (h H ws locs ls hP hD hBw hS hL hsz)
    · subst g1
      obtain ⟨mi, e1, e2⟩ := hg.2.2.2.2.2.2.1.2.2.1
      rw [hg0, e1] at h
      exact va_ldcM hx hb hown (hts _ g2) e2 (hd1 (by simp [ilen])) (h H ws locs ls hP hD hBw hS hL hsz)
    · omega
    · rw [hg0, hg.2.2.2.2.2.2.1.2.2.2 _ g1] at h
      exact lv_ldc hx hb hown (hts _ g2) (hd1 (by simp [ilen])) (h H ws locs ls hP hD hBw hS hL hsz)
    · omega
    · omega
    · omega
    · omega
  | if_acmp q off =>
    dsimp only [nxI] at h
    have key : ∀ (rx ry : Option Nat) (r : List Value), br (acP q (va_rf rx) (va_rf ry)) pc off 3 (fun p => (p, L, r, w, k, n)) (XS p l e s m args below meth c G M Q) → XS p l e s m args below meth c G M Q (pc, L, va_rf ry :: va_rf rx :: r, w, k, n) := by
      rintro rx ry r ⟨h0, ht, hf⟩ H ws locs ls hP hD hBw hS hL hsz
      have hinj : ∀ {x y : Option Nat}, va_rf x = va_rf y → x = y := fun {x y} z => by
        cases x <;> cases y <;> first | rfl | (cases z; done) | (cases z; rfl)
      cases q
      · exact lv_acmp_eq hx hb (hd1 (by simp [ilen])) (brT h0) (fun z => ht (by rw [z]; rfl) H ws locs ls hP hD hBw hS hL hsz) (fun z => hf (fun q => z (hinj q)) H ws locs ls hP hD hBw hS hL hsz)
      · exact lv_acmp_ne hx hb (hd1 (by simp [ilen])) (brT h0) (fun z => ht (fun q => z (hinj q)) H ws locs ls hP hD hBw hS hL hsz) (fun z => hf (fun q => q (by rw [z])) H ws locs ls hP hD hBw hS hL hsz)
    rcases sA_inv h with ⟨y, r, rfl, h2⟩ | ⟨r, rfl, h2⟩
    · rcases sA_inv h2 with ⟨x, r', rfl, h3⟩ | ⟨r', rfl, h3⟩
      · exact key (some x) (some y) r' h3
      · exact key none (some y) r' h3
    · rcases sA_inv h2 with ⟨x, r', rfl, h3⟩ | ⟨r', rfl, h3⟩
      · exact key (some x) none r' h3
      · exact key none none r' h3
  | checkcast i =>
    dsimp only [nxI] at h
    replace h := sA_inv h; rcases h with ⟨y, r, rfl, h9, h⟩ | ⟨r, rfl, h9, h⟩ <;> intro H ws locs ls hP hD hBw hS hL hsz
    · rcases h9 with h9 | ⟨a, t, x, h9, h8, hw⟩
      · cases h9
      · cases h9
        obtain ⟨ty, f1, f2, f3⟩ := hV.2.2.2.2.2.2.2.2.1 i t h8
        obtain ⟨kk, hkk⟩ := hBw y _ hw
        have hra := (hK'.2 t _ (gTys_at G f1)).2
        have hnm : s.vm.findClass ("[" ++ ty.toString) = some (G.2.2.1 t) := by
          cases ty with
          | object C => exact absurd rfl (f2 C)
          | _ => exact hra
        exact va_castA (D := gD G) hx hb hown (hts _ f3) hP kk hkk hnm (hd1 (by simp [ilen])) (h H ws locs ls hP hD hBw hS hL hsz)
    · exact lv_castN hx hb (hd1 (by simp [ilen])) (h H ws locs ls hP hD hBw hS hL hsz)
  | lcmp => dsimp only [nxI] at h; replace h := sL_inv h; obtain ⟨b, r, rfl, h⟩ := h; replace h := sL_inv h; obtain ⟨a, r, rfl, h⟩ := h; intro H ws locs ls hP hD hBw hS hL hsz; exact W.lcmp hx hb (hd1 (by simp [ilen])) (h H ws locs ls hP hD hBw hS hL hsz)
  | ifCond q off =>
    dsimp only [nxI] at h
    replace h := sI_inv h; obtain ⟨x, r, rfl, h0, ht, hf⟩ := h
    intro H ws locs ls hP hD hBw hS hL hsz
    have hd := hd1 (by simp [ilen])
    cases q
    all_goals first
      | exact lv_if_eq hx hb hd (brT h0) (fun z => ht z H ws locs ls hP hD hBw hS hL hsz) (fun z => hf z H ws locs ls hP hD hBw hS hL hsz)
      | exact lv_if_lt hx hb hd (brT h0) (fun z => ht z H ws locs ls hP hD hBw hS hL hsz) (fun z => hf z H ws locs ls hP hD hBw hS hL hsz)
      | exact lv_if_ge hx hb hd (brT h0) (fun z => ht z H ws locs ls hP hD hBw hS hL hsz) (fun z => hf z H ws locs ls hP hD hBw hS hL hsz)
      | exact lv_if_gt hx hb hd (brT h0) (fun z => ht z H ws locs ls hP hD hBw hS hL hsz) (fun z => hf z H ws locs ls hP hD hBw hS hL hsz)
      | exact lv_if_le hx hb hd (brT h0) (fun z => ht z H ws locs ls hP hD hBw hS hL hsz) (fun z => hf z H ws locs ls hP hD hBw hS hL hsz)
      | exact lv_if_ne hx hb hd (brT h0) (fun z => ht z H ws locs ls hP hD hBw hS hL hsz) (fun z => hf (fun q => q z) H ws locs ls hP hD hBw hS hL hsz)
  | if_icmp q off =>
    dsimp only [nxI] at h
    replace h := sI_inv h; obtain ⟨y, r, rfl, h⟩ := h
    replace h := sI_inv h; obtain ⟨x, r, rfl, h0, ht, hf⟩ := h
    intro H ws locs ls hP hD hBw hS hL hsz
    have hd := hd1 (by simp [ilen])
    cases q
    all_goals first
      | exact lv_icmp_eq hx hb hd (brT h0) (fun z => ht z H ws locs ls hP hD hBw hS hL hsz) (fun z => hf z H ws locs ls hP hD hBw hS hL hsz)
      | exact lv_icmp_lt hx hb hd (brT h0) (fun z => ht z H ws locs ls hP hD hBw hS hL hsz) (fun z => hf z H ws locs ls hP hD hBw hS hL hsz)
      | exact lv_icmp_ge hx hb hd (brT h0) (fun z => ht z H ws locs ls hP hD hBw hS hL hsz) (fun z => hf z H ws locs ls hP hD hBw hS hL hsz)
      | exact lv_icmp_gt hx hb hd (brT h0) (fun z => ht z H ws locs ls hP hD hBw hS hL hsz) (fun z => hf z H ws locs ls hP hD hBw hS hL hsz)
      | exact lv_icmp_le hx hb hd (brT h0) (fun z => ht z H ws locs ls hP hD hBw hS hL hsz) (fun z => hf z H ws locs ls hP hD hBw hS hL hsz)
      | exact lv_icmp_ne hx hb hd (brT h0) (fun z => ht z H ws locs ls hP hD hBw hS hL hsz) (fun z => hf (fun q => q z) H ws locs ls hP hD hBw hS hL hsz)
  | ifnull off =>
    dsimp only [nxI] at h
    replace h := sA_inv h; rcases h with ⟨x, r, rfl, h0, ht, hf⟩ | ⟨r, rfl, h0, ht, hf⟩ <;> intro H ws locs ls hP hD hBw hS hL hsz
    · exact lv_ifnull hx hb (hd1 (by simp [ilen])) (hf (fun z => by cases z) H ws locs ls hP hD hBw hS hL hsz)
    · exact lv_ifnullN hx hb (hd1 (by simp [ilen])) (brT h0) (ht rfl H ws locs ls hP hD hBw hS hL hsz)
  | ifnonnull off =>
    dsimp only [nxI] at h
    replace h := sA_inv h; rcases h with ⟨x, r, rfl, h0, ht, hf⟩ | ⟨r, rfl, h0, ht, hf⟩ <;> intro H ws locs ls hP hD hBw hS hL hsz
    · exact lv_ifnonnull hx hb (hd1 (by simp [ilen])) (brT h0) (ht (fun z => by cases z) H ws locs ls hP hD hBw hS hL hsz)
    · exact lv_ifnonnullN hx hb (hd1 (by simp [ilen])) (hf (fun z => z rfl) H ws locs ls hP hD hBw hS hL hsz)
  | goto off =>
    dsimp only [nxI] at h
    obtain ⟨h0, h⟩ := h
    intro H ws locs ls hP hD hBw hS hL hsz
    exact lv_goto hx hb (hd1 (by simp [ilen])) (brT h0) (h H ws locs ls hP hD hBw hS hL hsz)
  | tableswitch dflt lo hi offs =>
    dsimp only [nxI] at h
    replace h := sI_inv h; obtain ⟨x, r, rfl, h0, ho, hi2⟩ := h
    intro H ws locs ls hP hD hBw hS hL hsz
    by_cases z1 : x.toInt < lo
    · exact lv_tableOut hx hb hd0 (Or.inl z1) (brT h0) (ho (Or.inl z1) H ws locs ls hP hD hBw hS hL hsz)
    · by_cases z2 : hi < x.toInt
      · exact lv_tableOut hx hb hd0 (Or.inr z2) (brT h0) (ho (Or.inr z2) H ws locs ls hP hD hBw hS hL hsz)
      · obtain ⟨off, g1, g2, g3⟩ := hi2 z1 z2
        exact lv_tableIn hx hb hd0 z1 z2 g1 (brT g2) (g3 H ws locs ls hP hD hBw hS hL hsz)
  | lookupswitch dflt ps =>
    dsimp only [nxI] at h
    replace h := sI_inv h; obtain ⟨x, r, rfl, g1, g2, h⟩ := h
    intro H ws locs ls hP hD hBw hS hL hsz
    exact lv_lookup hx hb hd0 g1 rfl (brT g2) (h H ws locs ls hP hD hBw hS hL hsz)
  | ldc2_w i =>
    dsimp only [nxI] at h
    replace h := lk_inv h; obtain ⟨v, hv, h⟩ := h
    intro H ws locs ls hP hD hBw hS hL hsz
    exact lv_ldc2 hx hb hown (hts _ (hV.2.2.2.1 i v hv)) (hd1 (by simp [ilen])) (h H ws locs ls hP hD hBw hS hL hsz)
  | getfield i =>
    dsimp only [nxI] at h
    replace h := lk_inv h; obtain ⟨⟨ci, j⟩, hq, h⟩ := h
    replace h := sR_inv h; obtain ⟨a, r, rfl, h⟩ := h
    replace h := go_inv h; obtain ⟨fs, hw, v, hv, h⟩ := h
    intro H ws locs ls hP hD hBw hS hL hsz
    obtain ⟨C, T, N, ty0, ref, f1, f2, f3, f4, f5, f6, f7⟩ := hV.1 i ci j hq
    have hsame : ∀ x, s.fieldFound? (T j).1 (T j).2.1 (T j).2.2.1 = some x → s.fieldFound? ref (T j).2.1 (T j).2.2.1 = some x := by
      rcases f6 with rfl | f6
      · exact fun _ h => h
      · exact fun x h => u_same (hts _ f6) x h
    have k9 := h H ws locs ls hP hD hBw hS hL hsz
    rcases rd_at C0 hg0 hP hBw hS hw with ⟨ws', kk, hP', hkk⟩ | hold
    · rcases f7 with f7 | ⟨-, host, f7⟩ | ⟨-, -, host, f7⟩
      · exact va_get (D := gD G) (ci := ci) hx hb hts f3 hown hK' hP' kk hkk f1 j f2 (hts _ f7) hsame hv (hd1 (by simp [ilen])) k9
      · exact va_getN (D := gD G) (ci := ci) hx hb hts f3 hown hK' hP' kk hkk f1 j f2 (va_Nw.use rfl (hg.2.2.1 _ f7 rfl)) hsame hv (hd1 (by simp [ilen])) k9
      · exact va_getN (D := gD G) (ci := ci) hx hb hts f3 hown hK' hP' kk hkk f1 j f2 (va_Nw.use rfl (hg.2.2.1 _ f7 rfl)) hsame hv (hd1 (by simp [ilen])) k9
    · obtain ⟨r9, cell, z1, z2, z3, z4, z5, z6, z7⟩ := (oA.kept hold hS.2.1 : oA G H s a (.inr (ci, fs)))
      have hr9 : r9 = (C, T, N) := Option.some.inj (z1.symm.trans f1)
      subst hr9
      obtain ⟨hSl, hfc, kC, hkC, hkind⟩ := hK'.1 ci _ f1
      obtain ⟨cf, kf, fi, f, hi, hsl⟩ := hSl j f2
      have hslot : cell.slots[f.slot]? = some v := by
        have e1 : cell.slots[f.slot]? = some (vp_V fs j) := by
          rw [hsl]
          exact z6 j f2
        rw [e1]
        simp [vp_V, hv]
      rcases f7 with f7 | ⟨-, host, f7⟩ | ⟨-, -, host, f7⟩
      · exact W.getf hx hb hown (hts _ f7) (hsame _ hi) (u_facts hfc hkC (u_lays hts f3 f2) hi).1 z2 z4 (v := v) hslot rfl rfl (hd1 (by simp [ilen])) k9
      · exact va_Wgetf hx hb hown (va_Nw.use rfl (hg.2.2.1 _ f7 rfl)) (hsame _ hi) (u_facts hfc hkC (u_lays hts f3 f2) hi).1 z2 z4 (v := v) hslot rfl rfl (hd1 (by simp [ilen])) k9
      · exact va_Wgetf hx hb hown (va_Nw.use rfl (hg.2.2.1 _ f7 rfl)) (hsame _ hi) (u_facts hfc hkC (u_lays hts f3 f2) hi).1 z2 z4 (v := v) hslot rfl rfl (hd1 (by simp [ilen])) k9
  | putfield i =>
    dsimp only [nxI] at h
    replace h := lk_inv h; obtain ⟨⟨ci, j⟩, hq, h⟩ := h
    replace h := sV_inv h; obtain ⟨v, r, rfl, h⟩ := h
    replace h := sR_inv h; obtain ⟨a, r, rfl, h⟩ := h
    replace h := go_inv h; obtain ⟨fs, hw, hj, ⟨z, hz1, ty, hz2, hz3, hz4, hz5⟩, h⟩ := h
    intro H ws locs ls hP hD hBw hS hL hsz
    obtain ⟨C, T, N, ty0, ref, f1, f2, f3, f4, f5, f6, f7⟩ := hV.1 i ci j hq
    obtain ⟨kk, hkk⟩ := hBw a _ hw
    cases hz1.symm.trans f1
    have hsame : ∀ x, s.fieldFound? (T j).1 (T j).2.1 (T j).2.2.1 = some x → s.fieldFound? ref (T j).2.1 (T j).2.2.1 = some x := by
      rcases f6 with rfl | f6
      · exact fun _ h => h
      · exact fun x h => u_same (hts _ f6) x h
    have k9 : ∀ (H1 : Heap) (locs1 : List Loc), va_P (gD G) vwCl (ws.set kk (a, .inr (ci, fs.set j v))) H1 → va_D (gA G) (ws.set kk (a, .inr (ci, fs.set j v))) → va_S (gA G) s.heap H1 locs1 → _ :=
      fun H1 locs1 hP1 hD1 hS1 => h H1 _ locs1 ls hP1 hD1 (hBw.set hD hkk (.inr (ci, fs.set j v))) hS1 hL hsz
    by_cases hfin : (T j).2.2.2 = false
    · rcases f7 with f7 | ⟨-, host, f7⟩ | ⟨q1, -, -⟩
      · exact va_put (D := gD G) (ci := ci) hx hb hts f3 ty0 f4 f5 hown hK' hP hD hS kk hkk f1 j f2 (hts _ f7) hsame hfin hz2 hz3 hz4 hj (hd1 (by simp [ilen])) k9
      · exact va_putN (D := gD G) (ci := ci) hx hb hts f3 ty0 f4 f5 hown hK' hP hD hS kk hkk f1 j f2 (va_Nw.use rfl (hg.2.2.1 _ f7 rfl)) hsame hfin hz2 hz3 hz4 hj (hd1 (by simp [ilen])) k9
      · rw [q1] at hfin; cases hfin
    · rcases hz5 with hz5 | ⟨hz5, hz6⟩
      · exact absurd hz5 hfin
      · rcases f7 with f7 | ⟨q1, -, -⟩ | ⟨-, q1, -⟩
        · exact va_putF (D := gD G) (ci := ci) hx hb hts f3 ty0 f4 f5 hown hK' hP hD hS kk hkk f1 j f2 (hts _ f7) hsame (by cases hb2 : (T j).2.2.2 <;> simp_all) (hin hz5) hz6 hz2 hz3 hz4 hj (hd1 (by simp [ilen])) k9
        · exact absurd q1 hfin
        · exact absurd hz6 q1
  | new i =>
    dsimp only [nxI] at h
    replace h := lk_inv h; obtain ⟨⟨ci, fs⟩, hq, h1, h2, h⟩ := h
    intro H ws locs ls hP hD hBw hS hL hsz
    obtain ⟨C, T, ty0, f1, f2, f3, f4, f5, f6, f7⟩ := hV.2.1 i ci fs hq
    exact va_new (D := gD G) (ci := ci) (fs := fs) hx hb hts f2 ty0 f3 hown (hts _ f4) (hts _ f5) (hts _ f6) hK' hP hD hS hA f1 f7 h1 h2 (hd1 (by simp [ilen])) fun q H1 hP1 hD1 hS1 => by
      obtain ⟨g1, g2⟩ := fresh_at hg0 hg hBw (o := .inr (ci, fs)) hD1
      exact h q g1 H1 _ locs ls hP1 hD1 g2 hS1 hL hsz
  | anewarray i =>
    dsimp only [nxI] at h
    replace h := lk_inv h; obtain ⟨t, hq, h⟩ := h
    replace h := sI_inv h; obtain ⟨x, r, rfl, h0, h1, h2, h3, h⟩ := h
    intro H ws locs ls hP hD hBw hS hL hsz
    obtain ⟨C, f1, f2, f3⟩ := hV.2.2.1 i t hq
    exact va_newq (D := gD G) hx hb hown (hts _ f2) (hg.2.2.2.2.2.2.1.1 _ f3) hK' hP hD hS hA h0 rfl (by omega) h2 h3 (hd1 (by simp [ilen])) fun q cA H1 hK1 hP1 hD1 hS1 => by
      have hcA := newT hK f1 hK1
      subst hcA
      obtain ⟨g1, g2⟩ := fresh_at hg0 hg hBw (o := .inl (t, x.toNatClampNeg, .inr (.inr (.inr (.inr fun _ => none))))) hD1
      exact h q g1 H1 _ locs ls hP1 hD1 g2 hS1 hL hsz
  | newarray at9 =>
    cases at9 with
    | long =>
      dsimp only [nxI] at h
      replace h := sI_inv h; obtain ⟨x, r, rfl, h0, h1, h2, h3, h⟩ := h
      intro H ws locs ls hP hD hBw hS hL hsz
      exact va_newa (D := gD G) (atype := .long) (ty := .long) (a0 := (x.toNatClampNeg, .inr (.inl fun _ => 0))) hx hb (hts _ WS_aJ) rfl hK' hP hD hS hA (fun _ => rfl) h0 rfl (by simp [componentBytes]; omega) h2 h3 (hd1 (by simp [ilen])) fun q cA H1 hK1 hP1 hD1 hS1 => by
        have hcA := newT (t := 0) hK rfl hK1
        subst hcA
        obtain ⟨g1, g2⟩ := fresh_at hg0 hg hBw (o := .inl (0, x.toNatClampNeg, .inr (.inl fun _ => 0))) hD1
        exact h q g1 H1 _ locs ls hP1 hD1 g2 hS1 hL hsz
    | int =>
      dsimp only [nxI] at h
      replace h := sI_inv h; obtain ⟨x, r, rfl, h0, h1, h2, h3, h⟩ := h
      intro H ws locs ls hP hD hBw hS hL hsz
      exact va_newa (D := gD G) (atype := .int) (ty := .int) (a0 := (x.toNatClampNeg, .inl fun _ => 0)) hx hb (hts _ WS_aI) rfl hK' hP hD hS hA (fun _ => rfl) h0 rfl (by simp [componentBytes]; omega) h2 h3 (hd1 (by simp [ilen])) fun q cA H1 hK1 hP1 hD1 hS1 => by
        have hcA := newT (t := 1) hK rfl hK1
        subst hcA
        obtain ⟨g1, g2⟩ := fresh_at hg0 hg hBw (o := .inl (1, x.toNatClampNeg, .inl fun _ => 0)) hD1
        exact h q g1 H1 _ locs ls hP1 hD1 g2 hS1 hL hsz
    | byte =>
      dsimp only [nxI] at h
      replace h := sI_inv h; obtain ⟨x, r, rfl, h0, h1, h2, h3, h⟩ := h
      intro H ws locs ls hP hD hBw hS hL hsz
      exact va_newa (D := gD G) (atype := .byte) (ty := .byte) (a0 := (x.toNatClampNeg, .inl fun _ => 0)) hx hb (hts _ WS_aB) rfl hK' hP hD hS hA (fun _ => rfl) h0 rfl (by simp [componentBytes]; omega) h2 h3 (hd1 (by simp [ilen])) fun q cA H1 hK1 hP1 hD1 hS1 => by
        have hcA := newT (t := 2) hK rfl hK1
        subst hcA
        obtain ⟨g1, g2⟩ := fresh_at hg0 hg hBw (o := .inl (2, x.toNatClampNeg, .inl fun _ => 0)) hD1
        exact h q g1 H1 _ locs ls hP1 hD1 g2 hS1 hL hsz
    | boolean =>
      dsimp only [nxI] at h
      replace h := sI_inv h; obtain ⟨x, r, rfl, h0, h1, h2, h3, h⟩ := h
      intro H ws locs ls hP hD hBw hS hL hsz
      exact va_newa (D := gD G) (atype := .boolean) (ty := .boolean) (a0 := (x.toNatClampNeg, .inl fun _ => 0)) hx hb (hts _ WS_aZ) rfl hK' hP hD hS hA (fun _ => rfl) h0 rfl (by simp [componentBytes]; omega) h2 h3 (hd1 (by simp [ilen])) fun q cA H1 hK1 hP1 hD1 hS1 => by
        have hcA := newT (t := 3) hK rfl hK1
        subst hcA
        obtain ⟨g1, g2⟩ := fresh_at hg0 hg hBw (o := .inl (3, x.toNatClampNeg, .inl fun _ => 0)) hD1
        exact h q g1 H1 _ locs ls hP1 hD1 g2 hS1 hL hsz
    | _ => exact (h : False).elim
  | laload =>
    dsimp only [nxI] at h
    replace h := sI_inv h; obtain ⟨x, r, rfl, h⟩ := h
    replace h := sR_inv h; obtain ⟨a, r, rfl, h⟩ := h
    replace h := gl_inv h; obtain ⟨N, f, hw, h1, h⟩ := h
    intro H ws locs ls hP hD hBw hS hL hsz
    rcases rd_at C0 hg0 hP hBw hS hw with ⟨ws', kk, hP', hkk⟩ | hold
    rotate_left
    · exact (hold : False).elim
    exact va_lald (D := gD G) hx hb hK' hP' kk 0 hkk rfl h1 (hd1 (by simp [ilen])) (h H ws locs ls hP hD hBw hS hL hsz)
  | lastore =>
    dsimp only [nxI] at h
    replace h := sL_inv h; obtain ⟨v, r, rfl, h⟩ := h
    replace h := sI_inv h; obtain ⟨x, r, rfl, h⟩ := h
    replace h := sR_inv h; obtain ⟨a, r, rfl, h⟩ := h
    replace h := gl_inv h; obtain ⟨N, f, hw, h1, h⟩ := h
    intro H ws locs ls hP hD hBw hS hL hsz
    obtain ⟨kk, hkk⟩ := hBw a _ hw
    exact va_last (D := gD G) hx hb hK' hP hD hS kk 0 hkk rfl h1 (hd1 (by simp [ilen])) fun H1 locs1 hP1 hD1 hS1 => h H1 _ locs1 ls hP1 hD1 (hBw.set hD hkk (.inl (0, N, .inr (.inl (vp_updL f x.toNatClampNeg v))))) hS1 hL hsz
  | iaload =>
    dsimp only [nxI] at h
    replace h := sI_inv h; obtain ⟨x, r, rfl, h⟩ := h
    replace h := sR_inv h; obtain ⟨a, r, rfl, h⟩ := h
    replace h := gi_inv h; obtain ⟨N, f, hw, h1, h⟩ := h
    intro H ws locs ls hP hD hBw hS hL hsz
    rcases rd_at C0 hg0 hP hBw hS hw with ⟨ws', kk, hP', hkk⟩ | hold
    rotate_left
    · rcases (show ((1 : Nat) = 1 ∧ va_T .int a N (fun j => .int (f j)) (gA G) s s.heap) ∨ ((1 : Nat) = 2 ∧ va_T .byte a N (fun j => .int (f j)) (gA G) s s.heap) from hold) with ⟨-, hT⟩ | ⟨e, -⟩
      · exact va_ti hx hb hT hS h1 rfl (hd1 (by simp [ilen])) (h H ws locs ls hP hD hBw hS hL hsz)
      · exact absurd e (by decide)
    exact va_iald (D := gD G) hx hb hK' hP' kk 1 hkk rfl h1 (hd1 (by simp [ilen])) (h H ws locs ls hP hD hBw hS hL hsz)
  | iastore =>
    dsimp only [nxI] at h
    replace h := sI_inv h; obtain ⟨v, r, rfl, h⟩ := h
    replace h := sI_inv h; obtain ⟨x, r, rfl, h⟩ := h
    replace h := sR_inv h; obtain ⟨a, r, rfl, h⟩ := h
    replace h := gi_inv h; obtain ⟨N, f, hw, h1, h⟩ := h
    intro H ws locs ls hP hD hBw hS hL hsz
    obtain ⟨kk, hkk⟩ := hBw a _ hw
    exact va_iast (D := gD G) hx hb hK' hP hD hS kk 1 hkk rfl h1 (hd1 (by simp [ilen])) fun H1 locs1 hP1 hD1 hS1 => h H1 _ locs1 ls hP1 hD1 (hBw.set hD hkk (.inl (1, N, .inl (upd f x.toNatClampNeg v)))) hS1 hL hsz
  | baload =>
    dsimp only [nxI] at h
    replace h := sI_inv h; obtain ⟨x, r, rfl, h⟩ := h
    replace h := sR_inv h; obtain ⟨a, r, rfl, h⟩ := h
    replace h := gb_inv h; obtain ⟨t, N, f, hw, h0, h1, h⟩ := h
    intro H ws locs ls hP hD hBw hS hL hsz
    rcases rd_at C0 hg0 hP hBw hS hw with ⟨ws', kk, hP', hkk⟩ | hold
    rotate_left
    · rcases (show (t = 1 ∧ va_T .int a N (fun j => .int (f j)) (gA G) s s.heap) ∨ (t = 2 ∧ va_T .byte a N (fun j => .int (f j)) (gA G) s s.heap) from hold) with ⟨e, -⟩ | ⟨-, hT⟩
      · omega
      · exact va_tb hx hb hT hS h1 rfl (hd1 (by simp [ilen])) (h H ws locs ls hP hD hBw hS hL hsz)
    rcases h0 with rfl | rfl
    · exact va_bald (D := gD G) hx hb hK' hP' kk 2 hkk rfl h1 (hd1 (by simp [ilen])) (h H ws locs ls hP hD hBw hS hL hsz)
    · exact va_zald (D := gD G) hx hb hK' hP' kk 3 hkk rfl h1 (hd1 (by simp [ilen])) (h H ws locs ls hP hD hBw hS hL hsz)
  | bastore =>
    dsimp only [nxI] at h
    replace h := sI_inv h; obtain ⟨v, r, rfl, h⟩ := h
    replace h := sI_inv h; obtain ⟨x, r, rfl, h⟩ := h
    replace h := sR_inv h; obtain ⟨a, r, rfl, h⟩ := h
    replace h := gb_inv h; obtain ⟨t, N, f, hw, h0, h1, h⟩ := h
    intro H ws locs ls hP hD hBw hS hL hsz
    obtain ⟨kk, hkk⟩ := hBw a _ hw
    rcases h0 with rfl | rfl
    · exact va_bast (D := gD G) hx hb hK' hP hD hS kk 2 hkk rfl h1 (hd1 (by simp [ilen])) fun H1 locs1 hP1 hD1 hS1 => h H1 _ locs1 ls hP1 hD1 (hBw.set hD hkk (.inl (2, N, .inl (upd f x.toNatClampNeg (vp_nar .byte v))))) hS1 hL hsz
    · exact va_zast (D := gD G) hx hb hK' hP hD hS kk 3 hkk rfl h1 (hd1 (by simp [ilen])) fun H1 locs1 hP1 hD1 hS1 => h H1 _ locs1 ls hP1 hD1 (hBw.set hD hkk (.inl (3, N, .inl (upd f x.toNatClampNeg (vp_nar .boolean v))))) hS1 hL hsz
  | aaload =>
    dsimp only [nxI] at h
    replace h := sI_inv h; obtain ⟨x, r, rfl, h⟩ := h
    replace h := sR_inv h; obtain ⟨a, r, rfl, h⟩ := h
    replace h := gq_inv h; obtain ⟨t, N, f, hw, h0, h1, h⟩ := h
    intro H ws locs ls hP hD hBw hS hL hsz
    rcases rd_at C0 hg0 hP hBw hS hw with ⟨ws', kk, hP', hkk⟩ | hold
    rotate_left
    · obtain ⟨-, e, -⟩ := (show t = 5 ∧ N = 0 ∧ va_T (.object "java/lang/Object") a 0 (fun _ => .null) (gA G) s s.heap from hold)
      subst e
      exact absurd (Or.inr (Nat.zero_le _)) h1
    rcases h0 with rfl | rfl
    · exact va_aldq (D := gD G) hx hb hK' hP' kk 4 hkk rfl h1 (hd1 (by simp [ilen])) (h H ws locs ls hP hD hBw hS hL hsz)
    · exact va_aldq (D := gD G) hx hb hK' hP' kk 5 hkk rfl h1 (hd1 (by simp [ilen])) (h H ws locs ls hP hD hBw hS hL hsz)
  | aastore =>
    dsimp only [nxI] at h
    replace h := sA_inv h; rcases h with ⟨y, r, rfl, h⟩ | ⟨r, rfl, h⟩
    · replace h := sI_inv h; obtain ⟨x, r, rfl, h⟩ := h
      replace h := sR_inv h; obtain ⟨a, r, rfl, h⟩ := h
      replace h := gq_inv h; obtain ⟨t, N, f, hw, h1, h⟩ := h
      intro H ws locs ls hP hD hBw hS hL hsz
      obtain ⟨kk, hkk⟩ := hBw a _ hw
      rcases h with ⟨q1, -⟩ | ⟨b, q1, hgo, h⟩
      · cases q1
      · cases q1
        rcases hgo with ⟨rfl, hgo⟩ | ⟨rfl, hgo⟩
        · replace hgo := go_inv hgo
          obtain ⟨vs, hwb, -⟩ := hgo
          obtain ⟨kb, hkb⟩ := hBw y _ hwb
          exact va_astq (D := gD G) (r := (RX0, TX0, 4)) hx hb hK' hP hD hS kk 4 kb 4 hkk rfl hkb rfl h1 (hd1 (by simp [ilen])) fun H1 locs1 hP1 hD1 hS1 => h H1 _ locs1 ls hP1 hD1 (hBw.set hD hkk (.inl (4, N, .inr (.inr (.inr (.inr (va_up f x.toNatClampNeg (some y)))))))) hS1 hL hsz
        · exact va_astqM (D := gD G) (E := "java/lang/Object") hx hb hK' hP hD hS kk 5 hkk rfl (any_row hK hg hP hBw hgo) h1 (hd1 (by simp [ilen])) fun H1 locs1 hP1 hD1 hS1 => h H1 _ locs1 ls hP1 hD1 (hBw.set hD hkk (.inl (5, N, .inr (.inr (.inr (.inr (va_up f x.toNatClampNeg (some y)))))))) hS1 hL hsz
    · replace h := sI_inv h; obtain ⟨x, r, rfl, h⟩ := h
      replace h := sR_inv h; obtain ⟨a, r, rfl, h⟩ := h
      replace h := gq_inv h; obtain ⟨t, N, f, hw, h1, h⟩ := h
      intro H ws locs ls hP hD hBw hS hL hsz
      obtain ⟨kk, hkk⟩ := hBw a _ hw
      rcases h with ⟨-, h0, h⟩ | ⟨b, q1, -⟩
      · rcases h0 with rfl | rfl
        · exact va_astqN (D := gD G) hx hb hK' hP hD hS kk 4 hkk rfl h1 (hd1 (by simp [ilen])) fun H1 locs1 hP1 hD1 hS1 => h H1 _ locs1 ls hP1 hD1 (hBw.set hD hkk (.inl (4, N, .inr (.inr (.inr (.inr (va_up f x.toNatClampNeg none))))))) hS1 hL hsz
        · exact va_astqN (D := gD G) hx hb hK' hP hD hS kk 5 hkk rfl h1 (hd1 (by simp [ilen])) fun H1 locs1 hP1 hD1 hS1 => h H1 _ locs1 ls hP1 hD1 (hBw.set hD hkk (.inl (5, N, .inr (.inr (.inr (.inr (va_up f x.toNatClampNeg none))))))) hS1 hL hsz
      · cases q1
  | arraylength =>
    dsimp only [nxI] at h
    replace h := sR_inv h; obtain ⟨a, r, rfl, t, x, hw, h0, h⟩ := h
    intro H ws locs ls hP hD hBw hS hL hsz
    rcases rd_at C0 hg0 hP hBw hS hw with ⟨ws', kk, hP', hkk⟩ | hold
    rotate_left
    · obtain ⟨N, f | f | f | f | f⟩ := x
      · rcases (show (t = 1 ∧ va_T .int a N (fun j => .int (f j)) (gA G) s s.heap) ∨ (t = 2 ∧ va_T .byte a N (fun j => .int (f j)) (gA G) s s.heap) from hold) with ⟨-, hT⟩ | ⟨-, hT⟩
        · exact va_tlen hx hb hT hS rfl (hd1 (by simp [ilen])) (h H ws locs ls hP hD hBw hS hL hsz)
        · exact va_tlen hx hb hT hS rfl (hd1 (by simp [ilen])) (h H ws locs ls hP hD hBw hS hL hsz)
      · exact (hold : False).elim
      · exact (hold : False).elim
      · exact (hold : False).elim
      · obtain ⟨-, e, hT⟩ := (show t = 5 ∧ N = 0 ∧ va_T (.object "java/lang/Object") a 0 (fun _ => .null) (gA G) s s.heap from hold)
        subst e
        exact va_tlen hx hb hT hS rfl (hd1 (by simp [ilen])) (h H ws locs ls hP hD hBw hS hL hsz)
    obtain ⟨ty, hty⟩ : ∃ ty, atyL[t]? = some ty := ⟨_, List.getElem?_eq_getElem (by simpa [atyL] using h0)⟩
    exact va_alen (D := gD G) hx hb hK' hP' kk t hkk (gTys_at G hty) rfl (hd1 (by simp [ilen])) (h H ws locs ls hP hD hBw hS hL hsz)
  | invokestatic i =>
    dsimp only [nxI] at h
    by_cases ho : i = M.acp
    · rw [if_pos ho] at h
      replace h := sI_inv h; obtain ⟨n1, r, rfl, h⟩ := h
      replace h := sI_inv h; obtain ⟨dp, r, rfl, h⟩ := h
      replace h := sR_inv h; obtain ⟨d, r, rfl, h⟩ := h
      replace h := sI_inv h; obtain ⟨sp, r, rfl, h⟩ := h
      replace h := sR_inv h; obtain ⟨s9, r, rfl, ⟨g1, g2⟩, g3, g4, g5, g6, h⟩ := h
      intro H ws locs ls hP hD hBw hS hL hsz
      have hroom : (r.map fun v => v.category).sum + (nativeFrameWords "java/lang/System" "arraycopy" 5 + 11) ≤ (rmD M.d M.mc M.ms).locals := by
        have hn9 : nativeFrameWords "java/lang/System" "arraycopy" 5 + 11 ≤ 52 := by decide +kernel
        have hw9 : (r.map fun v => v.category).sum ≤ 8 := g1
        show _ ≤ 60 * M.d
        omega
      have hdd : decode M.code pc = .ok (.invokestatic M.acp, 3) := by rw [← ho]; exact hd1 (by simp [ilen])
      rcases h with ⟨N0, f0, N1, f1, hs, hd, z1, z2, hel, h⟩ | ⟨N0, f0, N1, f1, hs, hd, z1, z2, hel, h⟩
      · obtain ⟨ks, hks⟩ := hBw s9 _ hs
        obtain ⟨kd, hkd⟩ := hBw d _ hd
        exact va_copyM (D := gD G) (E0 := "java/lang/Object") (E1 := "java/lang/Object") hx hb hsz.symm hown (hts _ (hV.2.2.2.2.2.2.2.2.2.1 g2)) (hts _ WS_ac1) (hts _ WS_ac2) (hts _ WS_ac3) hK' hP hD hS ks kd 5 5 hks hkd rfl rfl g4 g5 g6 z1 z2 (fun j hj y hy => any_row hK hg hP hBw (hel j y hj hy)) g3 hroom hdd
          fun H1 locs1 hP1 hD1 hS1 => h H1 _ locs1 ls hP1 hD1 (hBw.set hD hkd (.inl (5, N1, .inr (.inr (.inr (.inr (va_cpy f0 f1 sp.toNatClampNeg dp.toNatClampNeg n1.toNatClampNeg))))))) hS1 hL hsz
      · obtain ⟨kd, hkd⟩ := hBw d _ hd
        rcases rd_at C0 hg0 hP hBw hS hs with ⟨ws', ks, hP', hks⟩ | hold
        rotate_left
        · rcases (show ((2 : Nat) = 1 ∧ va_T .int s9 N0 (fun j => .int (f0 j)) (gA G) s s.heap) ∨ ((2 : Nat) = 2 ∧ va_T .byte s9 N0 (fun j => .int (f0 j)) (gA G) s s.heap) from hold) with ⟨e, -⟩ | ⟨-, hT⟩
          · exact absurd e (by decide)
          · exact vk_copyt (D := gD G) hx hb hsz.symm hown (hts _ (hV.2.2.2.2.2.2.2.2.2.1 g2)) (hts _ WS_ac1) (hts _ WS_ac2) (hts _ WS_ac3) hK' hP hD hS hT kd 2 hkd rfl g4 g5 g6 z1 z2 hel g3 hroom hdd
              fun H1 locs1 hP1 hD1 hS1 => h H1 _ locs1 ls hP1 hD1 (hBw.set hD hkd (.inl (2, N1, .inl (va_cpy f0 f1 sp.toNatClampNeg dp.toNatClampNeg n1.toNatClampNeg)))) hS1 hL hsz
        exact cpB_read (D := gD G) hx hb hsz.symm hown (hts _ (hV.2.2.2.2.2.2.2.2.2.1 g2)) (hts _ WS_ac1) (hts _ WS_ac2) (hts _ WS_ac3) hK' (hP' ks _ hks) hP hD hS kd 2 hkd rfl g4 g5 g6 z1 z2 hel g3 hroom hdd
          fun H1 locs1 hP1 hD1 hS1 => h H1 _ locs1 ls hP1 hD1 (hBw.set hD hkd (.inl (2, N1, .inl (va_cpy f0 f1 sp.toNatClampNeg dp.toNatClampNeg n1.toNatClampNeg)))) hS1 hL hsz
    · rw [if_neg ho] at h
      by_cases hm12 : M.stt.lookup i = some 12
      · rw [if_pos hm12] at h
        replace h := sI_inv h; obtain ⟨y, r, rfl, h⟩ := h
        replace h := sI_inv h; obtain ⟨x, r, rfl, g1, g2, g3, g4, h⟩ := h
        intro H ws locs ls hP hD hBw hS hL hsz
        have hml' : Jvm.Cond.methodLink M.own i Lib.Math.max.name ∈ WS := by
          rcases hV.2.2.2.2.2.2.2.1 i 12 hm12 with ⟨C, n', d', g1, g2⟩ | ⟨tx, g1⟩ | ⟨g1, g2⟩ | ⟨g1, g2⟩ | ⟨v, g1, g2⟩ | ⟨g1, g2⟩ | ⟨g1, g2⟩ | ⟨g1, g2⟩ | ⟨g1, g2⟩
          · exact absurd (STT_lt _ g1) (by show ¬ 12 < 10; omega)
          · exact absurd (STG_ge _ g1) (by show ¬ 20 ≤ 12; omega)
          · omega
          · omega
          · exact absurd (ICL_ge _ g1) (by show ¬ 30 ≤ 12; omega)
          · first | exact g2 | omega
          · first | exact g2 | omega
          · omega
          · omega
        exact va_mmax hx hb hsz.symm hown (hts _ hml') (hts _ WS_mmax1) (hts _ WS_mm) (hts _ WS_mmax2) g2 (by show wt r + 13 ≤ 60 * M.d; omega) g3 g4 (hd1 (by simp [ilen])) (h H ws locs ls hP hD hBw hS hL hsz)
      rw [if_neg hm12] at h
      by_cases hm13 : M.stt.lookup i = some 13
      · rw [if_pos hm13] at h
        replace h := sI_inv h; obtain ⟨y, r, rfl, h⟩ := h
        replace h := sI_inv h; obtain ⟨x, r, rfl, g1, g2, g3, g4, h⟩ := h
        intro H ws locs ls hP hD hBw hS hL hsz
        have hml' : Jvm.Cond.methodLink M.own i Lib.Math.min.name ∈ WS := by
          rcases hV.2.2.2.2.2.2.2.1 i 13 hm13 with ⟨C, n', d', g1, g2⟩ | ⟨tx, g1⟩ | ⟨g1, g2⟩ | ⟨g1, g2⟩ | ⟨v, g1, g2⟩ | ⟨g1, g2⟩ | ⟨g1, g2⟩ | ⟨g1, g2⟩ | ⟨g1, g2⟩
          · exact absurd (STT_lt _ g1) (by show ¬ 13 < 10; omega)
          · exact absurd (STG_ge _ g1) (by show ¬ 20 ≤ 13; omega)
          · omega
          · omega
          · exact absurd (ICL_ge _ g1) (by show ¬ 30 ≤ 13; omega)
          · first | exact g2 | omega
          · first | exact g2 | omega
          · omega
          · omega
        exact va_mmin hx hb hsz.symm hown (hts _ hml') (hts _ WS_mmin1) (hts _ WS_mm) (hts _ WS_mmin2) g2 (by show wt r + 13 ≤ 60 * M.d; omega) g3 g4 (hd1 (by simp [ilen])) (h H ws locs ls hP hD hBw hS hL hsz)
      rw [if_neg hm13] at h
      by_cases hm14 : M.stt.lookup i = some 14
      · rw [if_pos hm14] at h
        replace h := sI_inv h; obtain ⟨x, r, rfl, g1, g2, g3, g4, h⟩ := h
        intro H ws locs ls hP hD hBw hS hL hsz
        have hml' : Jvm.Cond.methodLink M.own i Lib.Math.abs.name ∈ WS := by
          rcases hV.2.2.2.2.2.2.2.1 i 14 hm14 with ⟨C, n', d', g1, g2⟩ | ⟨tx, g1⟩ | ⟨g1, g2⟩ | ⟨g1, g2⟩ | ⟨v, g1, g2⟩ | ⟨g1, g2⟩ | ⟨g1, g2⟩ | ⟨g1, g2⟩ | ⟨g1, g2⟩
          · exact absurd (STT_lt _ g1) (by show ¬ 14 < 10; omega)
          · exact absurd (STG_ge _ g1) (by show ¬ 20 ≤ 14; omega)
          · omega
          · omega
          · exact absurd (ICL_ge _ g1) (by show ¬ 30 ≤ 14; omega)
          · omega
          · omega
          · exact g2
          · omega
        exact va_mabs hx hb hsz.symm hown (hts _ hml') (hts _ WS_mabs1) (hts _ WS_mm) (hts _ WS_mabs2) g2 (by show wt r + 13 ≤ 60 * M.d; omega) g3 g4 (hd1 (by simp [ilen])) (h H ws locs ls hP hD hBw hS hL hsz)
      rw [if_neg hm14] at h
      replace h := lk_inv h; obtain ⟨ce, hce, h1, h⟩ := h
      exact snd_call hC hV hce (hd1 (by simp [ilen])) (Or.inl ⟨h1, rfl⟩) h
  | invokeinterface i cnt =>
    dsimp only [nxI] at h
    replace h := lk_inv h; obtain ⟨ce, hce, h1, h⟩ := h
    exact snd_callF hC hV hce (hd1 (by simp [ilen])) h1 h
  | invokevirtual i =>
    dsimp only [nxI] at h
    by_cases hgc : M.stt.lookup i = some 11
    · have h' : sR st (fun a r => fun P => wt r ≤ 8 ∧ 1 ≤ M.d ∧ (∃ x, w a = some (.inl (5, x))) ∧ P (pc + 3, L, M.g.1 10 :: r, w, k, n)) (XS p l e s m args below meth c G M Q) := by
        have h2 : (if M.stt.lookup i = some 11 then sR st (fun a r => fun P => wt r ≤ 8 ∧ 1 ≤ M.d ∧ (∃ x, w a = some (.inl (5, x))) ∧ P (pc + 3, L, M.g.1 10 :: r, w, k, n)) else if M.stt.lookup i = some 15 then sR st (fun a r => fun P => wt r ≤ 8 ∧ 1 ≤ M.d ∧ k + 1 ≤ M.mc ∧ ∃ N f, w a = some (.inl (2, N, .inl f)) ∧ n + N ≤ M.ms ∧ (∀ j, j < N → fits .byte (.int (f j)) = true) ∧ ∀ q : Nat, rd M.g w q = none → P (pc + 3, L, .ref q :: r, upw w q (.inl (2, N, .inl f)), k + 1, n + N)) else lk (M.cal.lookup i) (fun ce => fun P => (2 ≤ ce.1 ∧ ce.1 ≤ 3 ∨ 7 ≤ ce.1 ∧ ce.1 ≤ 8) ∧ nxC M Q ce 3 pc L st w k n P)) (XS p l e s m args below meth c G M Q) := h
        rw [if_pos hgc] at h2
        exact h2
      replace h := sR_inv h'; obtain ⟨a, r, rfl, h1, h2, ⟨x, hw⟩, h⟩ := h
      intro H ws locs ls hP hD hBw hS hL hsz
      have hml' : Jvm.Cond.methodLink M.own i gcN ∈ WS := by
        rcases hV.2.2.2.2.2.2.2.1 i 11 hgc with ⟨C, n', d', g1, g2⟩ | ⟨tx, g1⟩ | ⟨g1, g2⟩ | ⟨-, g2⟩ | ⟨v, g1, g2⟩ | ⟨g1, g2⟩ | ⟨g1, g2⟩ | ⟨g1, g2⟩ | ⟨g1, g2⟩
        · exact absurd (STT_lt _ g1) (by show ¬ 11 < 10; omega)
        · exact absurd (STG_ge _ g1) (by show ¬ 20 ≤ 11; omega)
        · omega
        · exact g2
        · exact absurd (ICL_ge _ g1) (by show ¬ 30 ≤ 11; omega)
        · omega
        · omega
        · omega
        · omega
      obtain ⟨mi, e1, e2⟩ := hg.2.2.2.2.2.2.1.2.2.1
      rw [hg0, e1] at h
      obtain ⟨kk, hkk⟩ := hBw a _ hw
      have hat := hP kk _ hkk
      have hnm : s.vm.findClass "[Ljava/lang/Object;" = some (G.2.2.1 5) := va_nmO (hK'.2 5 _ rfl).2 (by decide)
      exact va_getC hx hb hsz.symm hown (hts _ hml') (va_Dc.use (hg.2.2.1 _ NW_gc rfl)) (hts _ WS_gc1) (hts _ WS_gc2) (hts _ WS_gc3) e2
        ⟨_, hat, (by obtain ⟨n, f | f | f | f | f⟩ := x <;> rfl), hnm.trans (congrArg some (by obtain ⟨n, f | f | f | f | f⟩ := x <;> rfl))⟩ h2 (by show wt r + 14 ≤ 60 * M.d; omega) (hd1 (by simp [ilen])) (h H ws locs ls hP hD hBw hS hL hsz)
    · have h2 : (if M.stt.lookup i = some 11 then sR st (fun a r => fun P => wt r ≤ 8 ∧ 1 ≤ M.d ∧ (∃ x, w a = some (.inl (5, x))) ∧ P (pc + 3, L, M.g.1 10 :: r, w, k, n)) else if M.stt.lookup i = some 15 then sR st (fun a r => fun P => wt r ≤ 8 ∧ 1 ≤ M.d ∧ k + 1 ≤ M.mc ∧ ∃ N f, w a = some (.inl (2, N, .inl f)) ∧ n + N ≤ M.ms ∧ (∀ j, j < N → fits .byte (.int (f j)) = true) ∧ ∀ q : Nat, rd M.g w q = none → P (pc + 3, L, .ref q :: r, upw w q (.inl (2, N, .inl f)), k + 1, n + N)) else lk (M.cal.lookup i) (fun ce => fun P => (2 ≤ ce.1 ∧ ce.1 ≤ 3 ∨ 7 ≤ ce.1 ∧ ce.1 ≤ 8) ∧ nxC M Q ce 3 pc L st w k n P)) (XS p l e s m args below meth c G M Q) := h
      rw [if_neg hgc] at h2
      by_cases hcl : M.stt.lookup i = some 15
      · rw [if_pos hcl] at h2
        replace h := sR_inv h2; obtain ⟨a, r, rfl, g1, g2, g3, N, f, hw, g4, g5, h⟩ := h
        intro H ws locs ls hP hD hBw hS hL hsz
        have hml' : Jvm.Cond.methodLink M.own i ⟨"[B", "clone", "()Ljava/lang/Object;"⟩ ∈ WS := by
          rcases hV.2.2.2.2.2.2.2.1 i 15 hcl with ⟨C, n', d', g1, g2⟩ | ⟨tx, g1⟩ | ⟨g1, g2⟩ | ⟨g1, g2⟩ | ⟨v, g1, g2⟩ | ⟨g1, g2⟩ | ⟨g1, g2⟩ | ⟨g1, g2⟩ | ⟨g1, g2⟩
          · exact absurd (STT_lt _ g1) (by show ¬ 15 < 10; omega)
          · exact absurd (STG_ge _ g1) (by show ¬ 20 ≤ 15; omega)
          · omega
          · omega
          · exact absurd (ICL_ge _ g1) (by show ¬ 30 ≤ 15; omega)
          · omega
          · omega
          · omega
          · exact g2
        obtain ⟨kk, hkk⟩ := hBw a _ hw
        exact va_clone (D := gD G) (ty := .byte) hx hb hsz.symm hown (hts _ hml') (hts _ WS_cl1) (hts _ WS_cl2) (hts _ WS_cl3) (hts _ WS_cl4) (hg.2.2.2.1 ("[B", "java/lang/Cloneable") (by decide)) hK' hP hD hS hA kk 2 hkk rfl (hK'.2 2 _ rfl).2
          (fun j v hv => by
            have hj : j < N := by
              have h9 := (Array.getElem?_eq_some_iff.mp hv).1
              have h8 : (vp_cell (G.2.2.1 2) (N, .inl f)).slots.size = N := arrV_size _ _ _
              omega
            have h9 : (vp_cell (G.2.2.1 2) (N, .inl f)).slots[j]? = some (.int (f j)) := arrV_read _ _ hj
            rw [h9] at hv
            cases hv
            exact g5 j hj) g2 (by show wt r + 14 ≤ 60 * M.d; omega) g3 g4 (hd1 (by simp [ilen])) fun q H1 hK1 hP1 hD1 hS1 => by
            obtain ⟨g1, g2⟩ := fresh_at (o := .inl (2, N, .inl f)) hg0 hg hBw hD1
            exact h q g1 H1 _ locs ls hP1 hD1 g2 hS1 hL hsz
      · rw [if_neg hcl] at h2
        replace h := lk_inv h2; obtain ⟨ce, hce, h1, h⟩ := h
        exact snd_call hC hV hce (hd1 (by simp [ilen])) (Or.inr (Or.inl ⟨h1, rfl⟩)) h
  | invokespecial i =>
    dsimp only [nxI] at h
    by_cases ho : i = M.obj
    · have h' : sR st (fun _ r => fun P => (wt r ≤ 8 ∧ M.obj ≠ 0) ∧ 1 ≤ M.d ∧ P (pc + 3, L, r, w, k, n)) (XS p l e s m args below meth c G M Q) := by
        have h2 : (if i = M.obj then sR st (fun _ r => fun P => (wt r ≤ 8 ∧ M.obj ≠ 0) ∧ 1 ≤ M.d ∧ P (pc + 3, L, r, w, k, n)) else lk (M.cal.lookup i) fun ce => fun P => (ce.1 = 4 ∨ ce.1 = 5 ∨ ce.1 = 10) ∧ nxC M Q ce 3 pc L st w k n P) (XS p l e s m args below meth c G M Q) := h
        rw [if_pos ho] at h2
        exact h2
      replace h := sR_inv h'; obtain ⟨a, r, rfl, ⟨h1, hi0⟩, h2, h⟩ := h
      intro H ws locs ls hP hD hBw hS hL hsz
      exact W.objInit (g := F0 m pc ls (.ref a :: r)) hx hb hown (hts _ (hV.2.2.2.2.2.1 hi0)) (hts _ WS_oi) (hts _ WS_oc) rfl hsz rfl (by rw [← ho]; exact hd1 (by simp [ilen])) h2 (by show 2 * 0 + wt r + 12 ≤ 60 * M.d; omega) (h H ws locs ls hP hD hBw hS hL hsz)
    · have h' : lk (M.cal.lookup i) (fun ce => fun P => (ce.1 = 4 ∨ ce.1 = 5 ∨ ce.1 = 10) ∧ nxC M Q ce 3 pc L st w k n P) (XS p l e s m args below meth c G M Q) := by
        have h2 : (if i = M.obj then sR st (fun _ r => fun P => (wt r ≤ 8 ∧ M.obj ≠ 0) ∧ 1 ≤ M.d ∧ P (pc + 3, L, r, w, k, n)) else lk (M.cal.lookup i) fun ce => fun P => (ce.1 = 4 ∨ ce.1 = 5 ∨ ce.1 = 10) ∧ nxC M Q ce 3 pc L st w k n P) (XS p l e s m args below meth c G M Q) := h
        rw [if_neg ho] at h2
        exact h2
      replace h := lk_inv h'; obtain ⟨ce, hce, h1, h⟩ := h
      exact snd_call hC hV hce (hd1 (by simp [ilen])) (Or.inr (Or.inr ⟨h1, rfl⟩)) h
  | ireturn =>
    dsimp only [nxI] at h
    obtain ⟨x, rfl, ⟨ty, g1, g2⟩, g3, g4, g5⟩ := h
    intro H ws locs ls hP hD hBw hS hL hsz
    exact vx_ret (W.widen g3 g4 (W.zret hx hb (hr.trans g1) g2 (fun t ht _ => ⟨_, w, rfl, g5, by rw [ht]; exact ⟨ws, hP, hD, hBw⟩, hS.F ht⟩) hS.2.2 (hd1 (by simp [ilen])) hlocks))
  | lreturn =>
    dsimp only [nxI] at h
    obtain ⟨x, rfl, g1, g3, g4, g5⟩ := h
    intro H ws locs ls hP hD hBw hS hL hsz
    exact vx_ret (W.widen g3 g4 (W.lret hx hb (hr.trans g1) (fun t ht _ => ⟨_, w, rfl, g5, by rw [ht]; exact ⟨ws, hP, hD, hBw⟩, hS.F ht⟩) hS.2.2 (hd1 (by simp [ilen])) hlocks))
  | areturn =>
    dsimp only [nxI] at h
    obtain ⟨v, rfl, g0, ⟨ty, g1, gt⟩, g3, g4, g5⟩ := h
    intro H ws locs ls hP hD hBw hS hL hsz
    exact vx_ret (W.widen g3 g4 (W.aret hx hb (hr.trans g1) gt g0 (fun t ht _ => ⟨_, w, rfl, g5, by rw [ht]; exact ⟨ws, hP, hD, hBw⟩, hS.F ht⟩) hS.2.2 (hd1 (by simp [ilen])) hlocks))
  | return_ =>
    dsimp only [nxI] at h
    obtain ⟨rfl, g1, g3, g4, g5⟩ := h
    intro H ws locs ls hP hD hBw hS hL hsz
    exact vx_ret (W.widen g3 g4 (W.vret hx hb (hr.trans g1) (fun t ht _ => ⟨_, w, rfl, g5, by rw [ht]; exact ⟨ws, hP, hD, hBw⟩, hS.F ht⟩) hS.2.2 (hd1 (by simp [ilen])) hlocks))
  | _ => exact (h : False).elim
end SND3

section SND4
variable {p : Program} {l : Launch} {e : Env} {s : State} {m : MethodId} {args : Array Value} {below : List Frame} {meth : Method} {c : Code} {G : GT} {M : MT} {Q : Ot → Hw → Prop}
variable {L : List (Option Value)} {st : List Value} {w : Hw} {k n pc : Nat}
set_option maxHeartbeats 1000000 in
theorem snd_thr (C0 : Cx p l s m args meth c G M) (hV : vM l G M) {E : String} (hthr : M.thr.lookup pc = some E)
    (h : M.hh = [] ∧ k + 1 ≤ M.mc ∧ n + 6 ≤ M.ms ∧ wt st ≤ 8 ∧ 6 ≤ M.d ∧ Q (.inr E) w) : XS p l e s m args below meth c G M Q (pc, L, st, w, k, n) := by
  obtain ⟨hx, hb, hml, hr, hown, hts, hlocks, hK, hz, hg, hst, hex, hin⟩ := id C0
  obtain ⟨h0, h1, h2, h3, h4, h5⟩ := h
  have hex0 : ∀ x ∈ c.exceptionTable.toList, False := fun x hx => by
    rw [hex, h0] at hx
    cases hx
  obtain ⟨ik, is, ic, text, t1, t2, t3, t4, t5, t6, d0, d3, d4, d6, d9⟩ := hV.2.2.2.2.1 pc E hthr
  intro H ws locs ls hP hD hBw hS hL hsz
  obtain ⟨sa, hstr⟩ := hg.2.2.2.2.2.1 _ t1
  have hat : ∀ w ∈ vx_atS M.own ic E exNames, w.before args s = true := fun w hw => by
    rcases (t5 w hw).1 with ⟨q1, q2⟩ | rfl
    · cases hq : goodWord w with
      | true => exact hts _ (WS_in q1 hq)
      | false =>
        rw [hq, Bool.false_or] at q2
        exact va_Nw.use (isNW_tab q2) (hg.2.2.1 w q1 q2)
    · exact va_Nw.use rfl (hg.2.2.2.1 _ t6)
  refine vx_throwS (A := gA G) (names := exNames) hx hb hst hown t2 (by decide +kernel) (hts _ t3) (hts _ t4) hstr hat ?_ hg.1 hg.2.1 hS hsz d0 d3 d4 d6 d9 (fun x hx => (hex0 x hx).elim) (by show 2 + 3 < M.d; omega) (by show wt st + (13 * (2 + 1) + 43) ≤ 60 * M.d; omega) h1 h2 hlocks ?_ hS.2.2 h1 h2
  · intro w hw
    rcases List.mem_cons.mp hw with rfl | hw
    · rfl
    · rcases List.mem_cons.mp hw with rfl | hw
      · rfl
      · exact (t5 w hw).2
  · intro t ht hsz2 hk2
    refine ⟨w, h5, ⟨ws, hP.kept fun j q hq => hk2 q.1 (hP j q hq).lt, hD, hBw⟩, ?_, fun q g1 g2 => ?_⟩
    · exact Nat.le_trans hS.1 hsz2
    · rw [hk2 q (Nat.lt_of_lt_of_le g1 hS.1)]
      exact hS.2.1 q g1 g2
theorem snd (C0 : Cx p l s m args meth c G M) (hV : vM l G M) {σ : St} (h : WP M Q σ) : XS p l e s m args below meth c G M Q σ := by
  refine h (XS p l e s m args below meth c G M Q) fun τ hτ => ?_
  obtain ⟨pc, L, st, w, k, n⟩ := τ
  unfold nx at hτ
  split at hτ
  · next E hE => exact snd_thr C0 hV hE hτ
  · split at hτ
    · next i len hd => exact snd_I C0 hV hd hτ.1 hτ.2
    · exact hτ.elim
end SND4
/-- THE CONTRACT: if the steps of M, begun with these arguments, come to what Q allows, so does the machine's call -/
theorem CX_of {l : Launch} {G : GT} {M : MT} {y : MethodName} (hl : l.stackTraces = false) (hy : plainName y.cls = true) (hown : M.own = y.cls) (hV : vM l G M) (hi : M.isI = true → y.name = "<init>") (h0 : M.hh = []) {args : List Value} {w : Hw} {Q : Ot → Hw → Prop} (ha : (args.map fun v => v.category).sum ≤ M.maxL)
    (h : WP M Q (0, entL args M.maxL, [], w, 0, 0)) : CX l G y (.code y M.code M.maxL M.rt) M.d M.mc M.ms args w Q := by
  refine vx_ofW (cc := M.code) (maxL := M.maxL) (ret := M.rt) hy rfl ?_
  intro p e s m av below meth c s₁ B hml hex hv
  obtain ⟨rfl, hR, hK, hz, hg⟩ := hv
  obtain ⟨ws, hP, hD, hBw⟩ := hR
  have hts := atoms_spec (ws := wsm (.code y M.code M.maxL M.rt)) B.pre
  have hex1 : c.exceptionTable.toList = tableOf M.hh := by
    rw [h0]
    cases hq : c.exceptionTable.toList with
    | nil => rfl
    | cons x r => exact (hex x (by rw [hq]; exact List.mem_cons_self)).elim
  have C0 : Cx p l s m args.toArray meth c G M := ⟨B.exec, B.bytes, hml, B.returns, by rw [hown]; exact findClass_of_methodNamed B.named, fun w hw => hts w (List.mem_cons_of_mem _ hw), B.notSynchronized, hK, hz, hg, hl, hex1, fun q => by rw [(name_of_methodNamed B.named B.method).1]; exact hi q⟩
  rw [lg_entry_eq]
  exact snd C0 hV h s.heap ws [] _ hP hD hBw va_S.rf (entL_ok args ha) (by rw [hml]; exact (entL_ok args ha).1.trans (entL_len args _ ha))
/-- the same of a method with an exception table -/
theorem CX_ofH {l : Launch} {G : GT} {M : MT} {y : MethodName} (hl : l.stackTraces = false) (hy : plainName y.cls = true) (hown : M.own = y.cls) (hV : vM l G M) (hi : M.isI = true → y.name = "<init>") {args : List Value} {w : Hw} {Q : Ot → Hw → Prop} (ha : (args.map fun v => v.category).sum ≤ M.maxL)
    (h : WP M Q (0, entL args M.maxL, [], w, 0, 0)) : CX l G y (.codeWith y M.code M.maxL M.rt M.hh) M.d M.mc M.ms args w Q := by
  refine vx_ofWH (cc := M.code) (maxL := M.maxL) (ret := M.rt) (hh := M.hh) hy rfl ?_
  intro p e s m av below meth c s₁ B hml hv
  obtain ⟨rfl, hR, hK, hz, hg⟩ := hv
  obtain ⟨ws, hP, hD, hBw⟩ := hR
  have hts := atoms_spec (ws := wsm (.codeWith y M.code M.maxL M.rt M.hh)) B.pre
  have hex1 : c.exceptionTable.toList = tableOf M.hh := vx_table (x := y) B (hts _ List.mem_cons_self)
  have C0 : Cx p l s m args.toArray meth c G M := ⟨B.exec, B.bytes, hml, B.returns, by rw [hown]; exact findClass_of_methodNamed B.named, fun w hw => hts w (List.mem_cons_of_mem _ hw), B.notSynchronized, hK, hz, hg, hl, hex1, fun q => by rw [(name_of_methodNamed B.named B.method).1]; exact hi q⟩
  rw [lg_entry_eq]
  exact snd C0 hV h s.heap ws [] _ hP hD hBw va_S.rf (entL_ok args ha) (by rw [hml]; exact (entL_ok args ha).1.trans (entL_len args _ ha))
end
