/-! 66.class18.lean.txt -/
section
theorem qx_cX1_knock_0 : ((cX1_knock.data.toList.drop 0).take 38).map UInt8.toNat = [42, 89, 180, 0, 29, 4, 96, 181, 0, 29, 42, 180, 0, 29, 172] := by decide +kernel
noncomputable def MX1_knock (g : RO) : MT := ((RX1, cX1_knock, 1, 1, 0, 0, false, some .int), [(29, 5, 5)], [], [], [], [], 0, [], [], [], 0, [], [], g)
theorem eX1_knock_0 {g : RO} {Q : Ot → Hw → Prop} {w : Hw} {st : List Value} {k n p : Nat} : WP (MX1_knock g) Q (Prod.mk 0 (Prod.mk (List.cons (Option.some (Value.ref p)) List.nil) (Prod.mk st (Prod.mk w (Prod.mk k n))))) = go (rd g w p) 5 fun fs => ∃ v, fs[5]? = some v ∧ WP (MX1_knock g) Q (Prod.mk 5 (Prod.mk (List.cons (Option.some (Value.ref p)) List.nil) (Prod.mk (List.cons v (List.cons (Value.ref p) st)) (Prod.mk w (Prod.mk k n))))) := Eq.trans (alnR_e rfl (oy_42 qx_cX1_knock_0 0 rfl) rfl) (Eq.trans (dupR_e rfl (oy_89 qx_cX1_knock_0 1 rfl)) (get_e rfl (oy_180 qx_cX1_knock_0 2 0 29 rfl rfl rfl rfl) rfl))
theorem eX1_knock_5 {g : RO} {Q : Ot → Hw → Prop} {w : Hw} {a : Int32} {st : List Value} {k n p : Nat} {l0 : Option Value} : WP (MX1_knock g) Q (Prod.mk 5 (Prod.mk (List.cons l0 List.nil) (Prod.mk (List.cons (Value.int a) (List.cons (Value.ref p) st)) (Prod.mk w (Prod.mk k n))))) = go (w p) 5 fun fs => 5 < fs.length ∧ (narrow (.int) (Value.int (a + 1)) = (Value.int (a + 1)) ∧ fits (.int) (Value.int (a + 1)) = true) ∧ WP (MX1_knock g) Q (Prod.mk 10 (Prod.mk (List.cons l0 List.nil) (Prod.mk st (Prod.mk (upw w p (.inr (5, fs.set 5 (Value.int (a + 1))))) (Prod.mk k n))))) := Eq.trans (ic_1 rfl (oy_4 qx_cX1_knock_0 5 rfl)) (Eq.trans (iadd_e rfl (oy_96 qx_cX1_knock_0 6 rfl)) (put_e (q := (RX1, TX1, 7)) rfl (oy_181 qx_cX1_knock_0 7 0 29 rfl rfl rfl rfl) rfl rfl (tyX1_ok 5 (by decide)) (Or.inl rfl)))
theorem eX1_knock_10 {g : RO} {Q : Ot → Hw → Prop} {w : Hw} {st : List Value} {k n p : Nat} : WP (MX1_knock g) Q (Prod.mk 10 (Prod.mk (List.cons (Option.some (Value.ref p)) List.nil) (Prod.mk st (Prod.mk w (Prod.mk k n))))) = go (rd g w p) 5 fun fs => ∃ v, fs[5]? = some v ∧ WP (MX1_knock g) Q (Prod.mk 14 (Prod.mk (List.cons (Option.some (Value.ref p)) List.nil) (Prod.mk (List.cons v st) (Prod.mk w (Prod.mk k n))))) := Eq.trans (alnR_e rfl (oy_42 qx_cX1_knock_0 10 rfl) rfl) (get_e rfl (oy_180 qx_cX1_knock_0 11 0 29 rfl rfl rfl rfl) rfl)
theorem eX1_knock_14 {g : RO} {Q : Ot → Hw → Prop} {w : Hw} {k n : Nat} {a : Int32} {l0 : Option Value} : WP (MX1_knock g) Q (Prod.mk 14 (Prod.mk (List.cons l0 List.nil) (Prod.mk (List.cons (Value.int a) List.nil) (Prod.mk w (Prod.mk k n))))) = (k ≤ 0 ∧ n ≤ 0 ∧ Q (.inl (Option.some (Value.int a))) w) := iretI_e rfl (oy_172 qx_cX1_knock_0 14 rfl) rfl
theorem vMX1_knock {l : Launch} (hl : l.stackTraces = false) (G : GT) : vM l G (MX1_knock (gg G)) := vM_k RX1 cX1_knock rfl rfl (all_c (vF_RX1_29) (all_n)) all_n all_n all_n all_n (fun h => absurd rfl h) all_n all_n all_n (fun h => absurd rfl h) rfl all_n
theorem okX1_knock {l : Launch} (hl : l.stackTraces = false) {G : GT} : ∀ (args : List Value) (w : Hw) (S : Ot → Hw → Prop), spOf (MX1_knock (gg G)) args w S → CX l G yX1_knock (.code yX1_knock cX1_knock 1 (some .int)) 1 0 0 args w S := CX_sp (M := MX1_knock (gg G)) (y := yX1_knock) hl pn16 rfl (vMX1_knock hl G) (fun h => by cases h) rfl
theorem qx_cX1_isSound_0 : ((cX1_isSound.data.toList.drop 0).take 38).map UInt8.toNat = [3, 60, 27, 16, 6, 162, 0, 38, 42, 180, 0, 15, 27, 50, 77, 44, 198, 0, 21, 42, 44, 182, 0, 208, 153, 0, 11, 42, 44, 182, 0, 211, 154, 0, 5, 3, 172, 132] := by decide +kernel
theorem qx_cX1_isSound_1 : ((cX1_isSound.data.toList.drop 32).take 38).map UInt8.toNat = [154, 0, 5, 3, 172, 132, 1, 1, 167, 255, 218, 42, 182, 0, 214, 172] := by decide +kernel
noncomputable def MX1_isSound (g : RO) : MT := ((RX1, cX1_isSound, 3, 6, 24, 96, false, some .boolean), [(15, 5, 1)], [], [], [], [], 0, [(208, 2, 2, 5, 5, (fun _ _ => 4), (fun _ _ => 16), yX1_isSoundAlone, spOf (MX1_isSoundAlone g)), (211, 2, 2, 5, 2, (fun _ _ => 0), (fun _ _ => 0), yX1_isSameToAndFro, spOf (MX1_isSameToAndFro g)), (214, 2, 1, 5, 3, (fun _ _ => 0), (fun _ _ => 0), yX1_isEachFoundInPile, spOf (MX1_isEachFoundInPile g))], [], [], 0, [], [], g)
theorem eX1_isSound_0 {g : RO} {Q : Ot → Hw → Prop} {w : Hw} {st : List Value} {k n : Nat} {l0 l1 l2 : Option Value} : WP (MX1_isSound g) Q (Prod.mk 0 (Prod.mk (List.cons l0 (List.cons l1 (List.cons l2 List.nil))) (Prod.mk st (Prod.mk w (Prod.mk k n))))) = WP (MX1_isSound g) Q (Prod.mk 2 (Prod.mk (List.cons (nl l0) (List.cons (Option.some (Value.int (0 : Int32))) (List.cons l2 List.nil))) (Prod.mk st (Prod.mk w (Prod.mk k n))))) := Eq.trans (ic_0 rfl (oy_3 qx_cX1_isSound_0 0 rfl)) (isn_e rfl (oy_60 qx_cX1_isSound_0 1 rfl) rfl rfl)
theorem eX1_isSound_2 {g : RO} {Q : Ot → Hw → Prop} {st : List Value} {w : Hw} {k n : Nat} {a : Int32} {l0 l2 : Option Value} : WP (MX1_isSound g) Q (Prod.mk 2 (Prod.mk (List.cons l0 (List.cons (Option.some (Value.int a)) (List.cons l2 List.nil))) (Prod.mk st (Prod.mk w (Prod.mk k n))))) = WP (MX1_isSound g) Q (Prod.mk 3 (Prod.mk (List.cons l0 (List.cons (Option.some (Value.int a)) (List.cons l2 List.nil))) (Prod.mk (List.cons (Value.int a) st) (Prod.mk w (Prod.mk k n))))) := iln_e rfl (oy_27 qx_cX1_isSound_0 2 rfl) rfl
theorem eX1_isSound_3 {g : RO} {Q : Ot → Hw → Prop} {w : Hw} {a : Int32} {st : List Value} {k n : Nat} {l0 l1 l2 : Option Value} : WP (MX1_isSound g) Q (Prod.mk 3 (Prod.mk (List.cons l0 (List.cons l1 (List.cons l2 List.nil))) (Prod.mk (List.cons (Value.int a) st) (Prod.mk w (Prod.mk k n))))) = if (6 : Int32) ≤ a then WP (MX1_isSound g) Q (Prod.mk 43 (Prod.mk (List.cons l0 (List.cons l1 (List.cons l2 List.nil))) (Prod.mk st (Prod.mk w (Prod.mk k n))))) else WP (MX1_isSound g) Q (Prod.mk 8 (Prod.mk (List.cons l0 (List.cons l1 (List.cons l2 List.nil))) (Prod.mk st (Prod.mk w (Prod.mk k n))))) := Eq.trans (bipush_e rfl (oy_16 qx_cX1_isSound_0 3 6 rfl rfl rfl) (by decide)) (icm_e ((6 : Int32) ≤ a) rfl (oy_162 qx_cX1_isSound_0 5 0 38 rfl rfl rfl rfl) rfl (by decide))
theorem eX1_isSound_8 {g : RO} {Q : Ot → Hw → Prop} {w : Hw} {st : List Value} {k n p : Nat} {l1 l2 : Option Value} : WP (MX1_isSound g) Q (Prod.mk 8 (Prod.mk (List.cons (Option.some (Value.ref p)) (List.cons l1 (List.cons l2 List.nil))) (Prod.mk st (Prod.mk w (Prod.mk k n))))) = go (rd g w p) 5 fun fs => ∃ v, fs[1]? = some v ∧ WP (MX1_isSound g) Q (Prod.mk 12 (Prod.mk (List.cons (Option.some (Value.ref p)) (List.cons l1 (List.cons l2 List.nil))) (Prod.mk (List.cons v st) (Prod.mk w (Prod.mk k n))))) := Eq.trans (alnR_e rfl (oy_42 qx_cX1_isSound_0 8 rfl) rfl) (get_e rfl (oy_180 qx_cX1_isSound_0 9 0 15 rfl rfl rfl rfl) rfl)
theorem eX1_isSound_12 {g : RO} {Q : Ot → Hw → Prop} {w : Hw} {a : Int32} {st : List Value} {k n p : Nat} {l0 l2 : Option Value} : WP (MX1_isSound g) Q (Prod.mk 12 (Prod.mk (List.cons l0 (List.cons (Option.some (Value.int a)) (List.cons l2 List.nil))) (Prod.mk (List.cons (Value.ref p) st) (Prod.mk w (Prod.mk k n))))) = gq (rd g w p) fun t N f => (t = 4 ∨ t = 5) ∧ vp_in a N ∧ WP (MX1_isSound g) Q (Prod.mk 14 (Prod.mk (List.cons l0 (List.cons (Option.some (Value.int a)) (List.cons l2 List.nil))) (Prod.mk (List.cons (va_rf (f a.toNatClampNeg)) st) (Prod.mk w (Prod.mk k n))))) := Eq.trans (iln_e rfl (oy_27 qx_cX1_isSound_0 12 rfl) rfl) (aaload_e rfl (oy_50 qx_cX1_isSound_0 13 rfl))
theorem eX1_isSound_14 {g : RO} {Q : Ot → Hw → Prop} {st : List Value} {w : Hw} {k n p : Nat} {l0 l1 l2 : Option Value} : WP (MX1_isSound g) Q (Prod.mk 14 (Prod.mk (List.cons l0 (List.cons l1 (List.cons l2 List.nil))) (Prod.mk (List.cons (Value.ref p) st) (Prod.mk w (Prod.mk k n))))) = WP (MX1_isSound g) Q (Prod.mk 15 (Prod.mk (List.cons l0 (List.cons (nl l1) (List.cons (Option.some (Value.ref p)) List.nil))) (Prod.mk st (Prod.mk w (Prod.mk k n))))) := asnR_e rfl (oy_77 qx_cX1_isSound_0 14 rfl) rfl rfl
theorem eX1_isSound_14N {g : RO} {Q : Ot → Hw → Prop} {st : List Value} {w : Hw} {k n : Nat} {l0 l1 l2 : Option Value} : WP (MX1_isSound g) Q (Prod.mk 14 (Prod.mk (List.cons l0 (List.cons l1 (List.cons l2 List.nil))) (Prod.mk (List.cons Value.null st) (Prod.mk w (Prod.mk k n))))) = WP (MX1_isSound g) Q (Prod.mk 15 (Prod.mk (List.cons l0 (List.cons (nl l1) (List.cons (Option.some (Value.null)) List.nil))) (Prod.mk st (Prod.mk w (Prod.mk k n))))) := asnN_e rfl (oy_77 qx_cX1_isSound_0 14 rfl) rfl rfl
theorem eX1_isSound_15 {g : RO} {Q : Ot → Hw → Prop} {st : List Value} {w : Hw} {k n p : Nat} {l0 l1 : Option Value} : WP (MX1_isSound g) Q (Prod.mk 15 (Prod.mk (List.cons l0 (List.cons l1 (List.cons (Option.some (Value.ref p)) List.nil))) (Prod.mk st (Prod.mk w (Prod.mk k n))))) = WP (MX1_isSound g) Q (Prod.mk 16 (Prod.mk (List.cons l0 (List.cons l1 (List.cons (Option.some (Value.ref p)) List.nil))) (Prod.mk (List.cons (Value.ref p) st) (Prod.mk w (Prod.mk k n))))) := alnR_e rfl (oy_44 qx_cX1_isSound_0 15 rfl) rfl
theorem eX1_isSound_15N {g : RO} {Q : Ot → Hw → Prop} {st : List Value} {w : Hw} {k n : Nat} {l0 l1 : Option Value} : WP (MX1_isSound g) Q (Prod.mk 15 (Prod.mk (List.cons l0 (List.cons l1 (List.cons (Option.some Value.null) List.nil))) (Prod.mk st (Prod.mk w (Prod.mk k n))))) = WP (MX1_isSound g) Q (Prod.mk 16 (Prod.mk (List.cons l0 (List.cons l1 (List.cons (Option.some Value.null) List.nil))) (Prod.mk (List.cons Value.null st) (Prod.mk w (Prod.mk k n))))) := alnN_e rfl (oy_44 qx_cX1_isSound_0 15 rfl) rfl
theorem eX1_isSound_16R {g : RO} {Q : Ot → Hw → Prop} {st : List Value} {w : Hw} {k n p : Nat} {l0 l1 l2 : Option Value} : WP (MX1_isSound g) Q (Prod.mk 16 (Prod.mk (List.cons l0 (List.cons l1 (List.cons l2 List.nil))) (Prod.mk (List.cons (Value.ref p) st) (Prod.mk w (Prod.mk k n))))) = WP (MX1_isSound g) Q (Prod.mk 19 (Prod.mk (List.cons l0 (List.cons l1 (List.cons l2 List.nil))) (Prod.mk st (Prod.mk w (Prod.mk k n))))) := ifnullR_e rfl (oy_198 qx_cX1_isSound_0 16 0 21 rfl rfl rfl rfl) (tgt := 37) (by decide)
theorem eX1_isSound_16N {g : RO} {Q : Ot → Hw → Prop} {st : List Value} {w : Hw} {k n : Nat} {l0 l1 l2 : Option Value} : WP (MX1_isSound g) Q (Prod.mk 16 (Prod.mk (List.cons l0 (List.cons l1 (List.cons l2 List.nil))) (Prod.mk (List.cons Value.null st) (Prod.mk w (Prod.mk k n))))) = WP (MX1_isSound g) Q (Prod.mk 37 (Prod.mk (List.cons l0 (List.cons l1 (List.cons l2 List.nil))) (Prod.mk st (Prod.mk w (Prod.mk k n))))) := ifnullN_e rfl (oy_198 qx_cX1_isSound_0 16 0 21 rfl rfl rfl rfl) (tgt := 37) (by decide)
theorem eX1_isSound_19 {g : RO} {Q : Ot → Hw → Prop} {w : Hw} {st : List Value} {k n p z0 : Nat} {l1 : Option Value} : WP (MX1_isSound g) Q (Prod.mk 19 (Prod.mk (List.cons (Option.some (Value.ref p)) (List.cons l1 (List.cons (Option.some (Value.ref z0)) List.nil))) (Prod.mk st (Prod.mk w (Prod.mk k n))))) = (go (rd g w p) 5 (fun _ => True) ∧ wt st ≤ 8 ∧ k + 4 ≤ 24 ∧ n + 16 ≤ 96 ∧ WP (MX1_isSoundAlone g) (kx (fun v w' => WP (MX1_isSound g) Q (Prod.mk 24 (Prod.mk (List.cons (Option.some (Value.ref p)) (List.cons l1 (List.cons (Option.some (Value.ref z0)) List.nil))) (Prod.mk (v.toList ++ st) (Prod.mk w' (Prod.mk (k + 4) (n + 16))))))) (fun E w' => Q (.inr E) w')) (Prod.mk 0 (Prod.mk (List.cons (Option.some (Value.ref p)) (List.cons (Option.some (Value.ref z0)) List.nil)) (Prod.mk List.nil (Prod.mk w (Prod.mk 0 0)))))) := Eq.trans (alnR_e rfl (oy_42 qx_cX1_isSound_0 19 rfl) rfl) (Eq.trans (alnR_e rfl (oy_44 qx_cX1_isSound_0 20 rfl) rfl) (csV0 (M := (MX1_isSound g)) (mc := (fun _ _ => 4)) (ms := (fun _ _ => 16)) (As := [.ref z0]) (rest := st) (MX1_isSoundAlone g) rfl rfl rfl (oy_182 qx_cX1_isSound_0 21 0 208 rfl rfl rfl rfl) rfl rfl rfl rfl rfl rfl))
theorem eX1_isSound_24 {g : RO} {Q : Ot → Hw → Prop} {st : List Value} {w : Hw} {k n : Nat} {a : Int32} {l0 l1 l2 : Option Value} : WP (MX1_isSound g) Q (Prod.mk 24 (Prod.mk (List.cons l0 (List.cons l1 (List.cons l2 List.nil))) (Prod.mk (List.cons (Value.int a) st) (Prod.mk w (Prod.mk k n))))) = if a = 0 then WP (MX1_isSound g) Q (Prod.mk 35 (Prod.mk (List.cons l0 (List.cons l1 (List.cons l2 List.nil))) (Prod.mk st (Prod.mk w (Prod.mk k n))))) else WP (MX1_isSound g) Q (Prod.mk 27 (Prod.mk (List.cons l0 (List.cons l1 (List.cons l2 List.nil))) (Prod.mk st (Prod.mk w (Prod.mk k n))))) := ifc_e (a = 0) rfl (oy_153 qx_cX1_isSound_0 24 0 11 rfl rfl rfl rfl) rfl (by decide)
theorem eX1_isSound_27 {g : RO} {Q : Ot → Hw → Prop} {w : Hw} {st : List Value} {k n p z0 : Nat} {l1 : Option Value} : WP (MX1_isSound g) Q (Prod.mk 27 (Prod.mk (List.cons (Option.some (Value.ref p)) (List.cons l1 (List.cons (Option.some (Value.ref z0)) List.nil))) (Prod.mk st (Prod.mk w (Prod.mk k n))))) = (go (rd g w p) 5 (fun _ => True) ∧ wt st ≤ 8 ∧ k + 0 ≤ 24 ∧ n + 0 ≤ 96 ∧ WP (MX1_isSameToAndFro g) (kx (fun v w' => WP (MX1_isSound g) Q (Prod.mk 32 (Prod.mk (List.cons (Option.some (Value.ref p)) (List.cons l1 (List.cons (Option.some (Value.ref z0)) List.nil))) (Prod.mk (v.toList ++ st) (Prod.mk w' (Prod.mk (k + 0) (n + 0))))))) (fun E w' => Q (.inr E) w')) (Prod.mk 0 (Prod.mk (List.cons (Option.some (Value.ref p)) (List.cons (Option.some (Value.ref z0)) (List.cons none (List.cons none List.nil)))) (Prod.mk List.nil (Prod.mk w (Prod.mk 0 0)))))) := Eq.trans (alnR_e rfl (oy_42 qx_cX1_isSound_0 27 rfl) rfl) (Eq.trans (alnR_e rfl (oy_44 qx_cX1_isSound_0 28 rfl) rfl) (csV0 (M := (MX1_isSound g)) (mc := (fun _ _ => 0)) (ms := (fun _ _ => 0)) (As := [.ref z0]) (rest := st) (MX1_isSameToAndFro g) rfl rfl rfl (oy_182 qx_cX1_isSound_0 29 0 211 rfl rfl rfl rfl) rfl rfl rfl rfl rfl rfl))
theorem eX1_isSound_32 {g : RO} {Q : Ot → Hw → Prop} {st : List Value} {w : Hw} {k n : Nat} {a : Int32} {l0 l1 l2 : Option Value} : WP (MX1_isSound g) Q (Prod.mk 32 (Prod.mk (List.cons l0 (List.cons l1 (List.cons l2 List.nil))) (Prod.mk (List.cons (Value.int a) st) (Prod.mk w (Prod.mk k n))))) = if a = 0 then WP (MX1_isSound g) Q (Prod.mk 35 (Prod.mk (List.cons l0 (List.cons l1 (List.cons l2 List.nil))) (Prod.mk st (Prod.mk w (Prod.mk k n))))) else WP (MX1_isSound g) Q (Prod.mk 37 (Prod.mk (List.cons l0 (List.cons l1 (List.cons l2 List.nil))) (Prod.mk st (Prod.mk w (Prod.mk k n))))) := ifcn_e (a = 0) rfl (oy_154 qx_cX1_isSound_1 0 0 5 rfl rfl rfl rfl) rfl (by decide)
theorem eX1_isSound_35 {g : RO} {Q : Ot → Hw → Prop} {w : Hw} {k n : Nat} {l0 l1 l2 : Option Value} : WP (MX1_isSound g) Q (Prod.mk 35 (Prod.mk (List.cons l0 (List.cons l1 (List.cons l2 List.nil))) (Prod.mk List.nil (Prod.mk w (Prod.mk k n))))) = (narrow (.boolean) (Value.int (0 : Int32)) = Value.int (0 : Int32) ∧ k ≤ 24 ∧ n ≤ 96 ∧ Q (.inl (Option.some (Value.int (0 : Int32)))) w) := Eq.trans (ic_0 rfl (oy_3 qx_cX1_isSound_1 3 rfl)) (iret_e rfl (oy_172 qx_cX1_isSound_1 4 rfl) rfl)
theorem eX1_isSound_37 {g : RO} {Q : Ot → Hw → Prop} {w : Hw} {a : Int32} {st : List Value} {k n : Nat} {l0 l2 : Option Value} : WP (MX1_isSound g) Q (Prod.mk 37 (Prod.mk (List.cons l0 (List.cons (Option.some (Value.int a)) (List.cons l2 List.nil))) (Prod.mk st (Prod.mk w (Prod.mk k n))))) = WP (MX1_isSound g) Q (Prod.mk 2 (Prod.mk (List.cons (nl l0) (List.cons (Option.some (Value.int (a + 1))) (List.cons l2 List.nil))) (Prod.mk st (Prod.mk w (Prod.mk k n))))) := Eq.trans (Eq.trans (iinc_e (M := (MX1_isSound g)) (L := [l0, some (.int a), l2]) (d := 1) rfl (oy_132 qx_cX1_isSound_1 5 1 1 rfl rfl rfl rfl) (by decide) rfl) rfl) (goto_e rfl (oy_167 qx_cX1_isSound_1 8 255 218 rfl rfl rfl rfl) (by decide))
theorem eX1_isSound_43 {g : RO} {Q : Ot → Hw → Prop} {w : Hw} {st : List Value} {k n p : Nat} {l1 l2 : Option Value} : WP (MX1_isSound g) Q (Prod.mk 43 (Prod.mk (List.cons (Option.some (Value.ref p)) (List.cons l1 (List.cons l2 List.nil))) (Prod.mk st (Prod.mk w (Prod.mk k n))))) = (go (rd g w p) 5 (fun _ => True) ∧ wt st ≤ 8 ∧ k + 0 ≤ 24 ∧ n + 0 ≤ 96 ∧ WP (MX1_isEachFoundInPile g) (kx (fun v w' => WP (MX1_isSound g) Q (Prod.mk 47 (Prod.mk (List.cons (Option.some (Value.ref p)) (List.cons l1 (List.cons l2 List.nil))) (Prod.mk (v.toList ++ st) (Prod.mk w' (Prod.mk (k + 0) (n + 0))))))) (fun E w' => Q (.inr E) w')) (Prod.mk 0 (Prod.mk (List.cons (Option.some (Value.ref p)) (List.cons none (List.cons none List.nil))) (Prod.mk List.nil (Prod.mk w (Prod.mk 0 0)))))) := Eq.trans (alnR_e rfl (oy_42 qx_cX1_isSound_1 11 rfl) rfl) (csV0 (M := (MX1_isSound g)) (mc := (fun _ _ => 0)) (ms := (fun _ _ => 0)) (As := []) (rest := st) (MX1_isEachFoundInPile g) rfl rfl rfl (oy_182 qx_cX1_isSound_1 12 0 214 rfl rfl rfl rfl) rfl rfl rfl rfl rfl rfl)
theorem eX1_isSound_47 {g : RO} {Q : Ot → Hw → Prop} {w : Hw} {k n : Nat} {a : Int32} {l0 l1 l2 : Option Value} : WP (MX1_isSound g) Q (Prod.mk 47 (Prod.mk (List.cons l0 (List.cons l1 (List.cons l2 List.nil))) (Prod.mk (List.cons (Value.int a) List.nil) (Prod.mk w (Prod.mk k n))))) = (narrow (.boolean) (Value.int a) = Value.int a ∧ k ≤ 24 ∧ n ≤ 96 ∧ Q (.inl (Option.some (Value.int a))) w) := iret_e rfl (oy_172 qx_cX1_isSound_1 15 rfl) rfl
theorem wk_140 : (.code yX1_isSoundAlone cX1_isSoundAlone 2 (some .boolean) : Jvm.Cond) ∈ WS := WS_t1 82 (by eq_refl) (by eq_refl)
theorem wk_137 : (.methodLink RX1 208 yX1_isSoundAlone : Jvm.Cond) ∈ WS := WS_t1 79 (by eq_refl) (by eq_refl)
theorem wk_139 : (.instanceMethod yX1_isSoundAlone : Jvm.Cond) ∈ WS := WS_t1 81 (by eq_refl) (by eq_refl)
theorem wk_0 : (.selects RX1 yX1_isSoundAlone yX1_isSoundAlone : Jvm.Cond) ∈ WS := WS_at 0 (by decide +kernel) rfl
theorem wk_235 : (.code yX1_isSameToAndFro cX1_isSameToAndFro 4 (some .boolean) : Jvm.Cond) ∈ WS := WS_t1 177 (by eq_refl) (by eq_refl)
theorem wk_232 : (.methodLink RX1 211 yX1_isSameToAndFro : Jvm.Cond) ∈ WS := WS_t1 174 (by eq_refl) (by eq_refl)
theorem wk_234 : (.instanceMethod yX1_isSameToAndFro : Jvm.Cond) ∈ WS := WS_t1 176 (by eq_refl) (by eq_refl)
theorem wk_10 : (.selects RX1 yX1_isSameToAndFro yX1_isSameToAndFro : Jvm.Cond) ∈ WS := WS_at 10 (by decide +kernel) rfl
theorem wk_239 : (.code yX1_isEachFoundInPile cX1_isEachFoundInPile 3 (some .boolean) : Jvm.Cond) ∈ WS := WS_t1 181 (by eq_refl) (by eq_refl)
theorem wk_236 : (.methodLink RX1 214 yX1_isEachFoundInPile : Jvm.Cond) ∈ WS := WS_t1 178 (by eq_refl) (by eq_refl)
theorem wk_238 : (.instanceMethod yX1_isEachFoundInPile : Jvm.Cond) ∈ WS := WS_t1 180 (by eq_refl) (by eq_refl)
theorem wk_11 : (.selects RX1 yX1_isEachFoundInPile yX1_isEachFoundInPile : Jvm.Cond) ∈ WS := WS_at 11 (by decide +kernel) rfl
theorem kc_127 {l : Launch} (hl : l.stackTraces = false) {G : GT} {own : String} {i : Nat} (hw : Jvm.Cond.methodLink own i yX1_isSoundAlone ∈ WS) : vCal l G own i (2, 2, 5, 5, (fun _ _ => 4), (fun _ _ => 16), yX1_isSoundAlone, spOf (MX1_isSoundAlone (gg G))) := ⟨cX1_isSoundAlone, 2, some .boolean, fun y hy => by subst hy; exact ⟨Nat.le_of_ble_eq_true rfl, ⟨_, wk_140, okX1_isSoundAlone hl, Or.inl ⟨Nat.ne_of_beq_eq_false rfl, rfl⟩⟩, wk_59, nc14, ⟨pd57, hw, wk_139, wk_0, (RX1, TX1, 7), rfl, rfl⟩⟩⟩
theorem kc_128 {l : Launch} (hl : l.stackTraces = false) {G : GT} {own : String} {i : Nat} (hw : Jvm.Cond.methodLink own i yX1_isSameToAndFro ∈ WS) : vCal l G own i (2, 2, 5, 2, (fun _ _ => 0), (fun _ _ => 0), yX1_isSameToAndFro, spOf (MX1_isSameToAndFro (gg G))) := ⟨cX1_isSameToAndFro, 4, some .boolean, fun y hy => by subst hy; exact ⟨Nat.le_of_ble_eq_true rfl, ⟨_, wk_235, okX1_isSameToAndFro hl, Or.inl ⟨Nat.ne_of_beq_eq_false rfl, rfl⟩⟩, wk_59, nc14, ⟨pd57, hw, wk_234, wk_10, (RX1, TX1, 7), rfl, rfl⟩⟩⟩
theorem kc_129 {l : Launch} (hl : l.stackTraces = false) {G : GT} {own : String} {i : Nat} (hw : Jvm.Cond.methodLink own i yX1_isEachFoundInPile ∈ WS) : vCal l G own i (2, 1, 5, 3, (fun _ _ => 0), (fun _ _ => 0), yX1_isEachFoundInPile, spOf (MX1_isEachFoundInPile (gg G))) := ⟨cX1_isEachFoundInPile, 3, some .boolean, fun y hy => by subst hy; exact ⟨Nat.le_of_ble_eq_true rfl, ⟨_, wk_239, okX1_isEachFoundInPile hl, Or.inl ⟨Nat.ne_of_beq_eq_false rfl, rfl⟩⟩, wk_59, nc14, ⟨pd3, hw, wk_238, wk_11, (RX1, TX1, 7), rfl, rfl⟩⟩⟩
theorem vMX1_isSound {l : Launch} (hl : l.stackTraces = false) (G : GT) : vM l G (MX1_isSound (gg G)) := vM_k RX1 cX1_isSound rfl rfl (all_c (vF_RX1_15) (all_n)) all_n all_n all_n all_n (fun h => absurd rfl h) (all_c (kc_127 hl wk_137) (all_c (kc_128 hl wk_232) (all_c (kc_129 hl wk_236) (all_n)))) all_n all_n (fun h => absurd rfl h) rfl all_n
theorem okX1_isSound {l : Launch} (hl : l.stackTraces = false) {G : GT} : ∀ (args : List Value) (w : Hw) (S : Ot → Hw → Prop), spOf (MX1_isSound (gg G)) args w S → CX l G yX1_isSound (.code yX1_isSound cX1_isSound 3 (some .boolean)) 6 24 96 args w S := CX_sp (M := MX1_isSound (gg G)) (y := yX1_isSound) hl pn16 rfl (vMX1_isSound hl G) (fun h => by cases h) rfl
theorem qx_cX1_digest_0 : ((cX1_digest.data.toList.drop 0).take 38).map UInt8.toNat = [42, 20, 0, 217, 182, 0, 219, 64, 3, 62, 29, 16, 8, 162, 0, 21, 42, 31, 42, 180, 0, 9, 29, 47, 182, 0, 223, 64, 132, 3, 1, 167, 255, 235, 3, 62, 29, 16] := by decide +kernel
theorem qx_cX1_digest_1 : ((cX1_digest.data.toList.drop 32).take 38).map UInt8.toNat = [255, 235, 3, 62, 29, 16, 6, 162, 0, 21, 42, 31, 42, 180, 0, 15, 29, 50, 182, 0, 227, 64, 132, 3, 1, 167, 255, 235, 42, 31, 182, 0, 231, 64, 31, 42, 182, 0] := by decide +kernel
theorem qx_cX1_digest_2 : ((cX1_digest.data.toList.drop 64).take 38).map UInt8.toNat = [231, 64, 31, 42, 182, 0, 234, 184, 0, 130, 133, 184, 0, 237, 173] := by decide +kernel
noncomputable def MX1_digest (g : RO) : MT := ((RX1, cX1_digest, 4, 7, 24, 96, false, some .long), [(9, 5, 0), (15, 5, 1)], [], [], [(217, 7783)], [], 0, [(219, 2, 2, 5, 4, (fun _ _ => 0), (fun _ _ => 0), yX1_withHouse, spOf (MX1_withHouse g)), (223, 2, 3, 5, 5, (fun _ _ => 0), (fun _ _ => 0), yX1_withNumber, spOf (MX1_withNumber g)), (227, 2, 3, 5, 6, (fun _ _ => 0), (fun _ _ => 0), yX1_withCard, spOf (MX1_withCard g)), (231, 2, 2, 5, 5, (fun _ _ => 0), (fun _ _ => 0), yX1_withWhichAndPile, spOf (MX1_withWhichAndPile g)), (234, 2, 1, 5, 6, (fun _ _ => 24), (fun _ _ => 96), yX1_isSound, spOf (MX1_isSound g)), (130, 0, 1, 0, 1, (fun _ _ => 0), (fun _ _ => 0), yX1_asNumber, spOf (MX1_asNumber g)), (237, 0, 2, 0, 1, (fun _ _ => 0), (fun _ _ => 0), yX1_with, spOf (MX1_with g))], [], [], 0, [], [], g)
theorem eX1_digest_0 {g : RO} {Q : Ot → Hw → Prop} {w : Hw} {st : List Value} {k n p : Nat} {l1 l2 l3 : Option Value} : WP (MX1_digest g) Q (Prod.mk 0 (Prod.mk (List.cons (Option.some (Value.ref p)) (List.cons l1 (List.cons l2 (List.cons l3 List.nil)))) (Prod.mk st (Prod.mk w (Prod.mk k n))))) = (go (rd g w p) 5 (fun _ => True) ∧ wt st ≤ 8 ∧ k + 0 ≤ 24 ∧ n + 0 ≤ 96 ∧ WP (MX1_withHouse g) (kx (fun v w' => WP (MX1_digest g) Q (Prod.mk 7 (Prod.mk (List.cons (Option.some (Value.ref p)) (List.cons l1 (List.cons l2 (List.cons l3 List.nil)))) (Prod.mk (v.toList ++ st) (Prod.mk w' (Prod.mk (k + 0) (n + 0))))))) (fun E w' => Q (.inr E) w')) (Prod.mk 0 (Prod.mk (List.cons (Option.some (Value.ref p)) (List.cons (Option.some (Value.long (7783 : Int64))) (List.cons none (List.cons none (List.cons none (List.cons none List.nil)))))) (Prod.mk List.nil (Prod.mk w (Prod.mk 0 0)))))) := Eq.trans (alnR_e rfl (oy_42 qx_cX1_digest_0 0 rfl) rfl) (Eq.trans (ldc2_e rfl (oy_20 qx_cX1_digest_0 1 0 217 rfl rfl rfl rfl) rfl) (csV0 (M := (MX1_digest g)) (mc := (fun _ _ => 0)) (ms := (fun _ _ => 0)) (As := [.long (7783 : Int64)]) (rest := st) (MX1_withHouse g) rfl rfl rfl (oy_182 qx_cX1_digest_0 4 0 219 rfl rfl rfl rfl) rfl rfl rfl rfl rfl rfl))
theorem eX1_digest_7 {g : RO} {Q : Ot → Hw → Prop} {w : Hw} {x : Int64} {st : List Value} {k n : Nat} {l0 l1 l2 l3 : Option Value} : WP (MX1_digest g) Q (Prod.mk 7 (Prod.mk (List.cons l0 (List.cons l1 (List.cons l2 (List.cons l3 List.nil)))) (Prod.mk (List.cons (Value.long x) st) (Prod.mk w (Prod.mk k n))))) = WP (MX1_digest g) Q (Prod.mk 10 (Prod.mk (List.cons (nl l0) (List.cons (Option.some (Value.long x)) (List.cons (nl none) (List.cons (Option.some (Value.int (0 : Int32))) List.nil)))) (Prod.mk st (Prod.mk w (Prod.mk k n))))) := Eq.trans (lsn_e rfl (oy_64 qx_cX1_digest_0 7 rfl) rfl rfl) (Eq.trans (ic_0 rfl (oy_3 qx_cX1_digest_0 8 rfl)) (isn_e rfl (oy_62 qx_cX1_digest_0 9 rfl) rfl rfl))
theorem eX1_digest_10 {g : RO} {Q : Ot → Hw → Prop} {st : List Value} {w : Hw} {k n : Nat} {a : Int32} {l0 l1 l2 : Option Value} : WP (MX1_digest g) Q (Prod.mk 10 (Prod.mk (List.cons l0 (List.cons l1 (List.cons l2 (List.cons (Option.some (Value.int a)) List.nil)))) (Prod.mk st (Prod.mk w (Prod.mk k n))))) = WP (MX1_digest g) Q (Prod.mk 11 (Prod.mk (List.cons l0 (List.cons l1 (List.cons l2 (List.cons (Option.some (Value.int a)) List.nil)))) (Prod.mk (List.cons (Value.int a) st) (Prod.mk w (Prod.mk k n))))) := iln_e rfl (oy_29 qx_cX1_digest_0 10 rfl) rfl
theorem eX1_digest_11 {g : RO} {Q : Ot → Hw → Prop} {w : Hw} {a : Int32} {st : List Value} {k n : Nat} {l0 l1 l2 l3 : Option Value} : WP (MX1_digest g) Q (Prod.mk 11 (Prod.mk (List.cons l0 (List.cons l1 (List.cons l2 (List.cons l3 List.nil)))) (Prod.mk (List.cons (Value.int a) st) (Prod.mk w (Prod.mk k n))))) = if (8 : Int32) ≤ a then WP (MX1_digest g) Q (Prod.mk 34 (Prod.mk (List.cons l0 (List.cons l1 (List.cons l2 (List.cons l3 List.nil)))) (Prod.mk st (Prod.mk w (Prod.mk k n))))) else WP (MX1_digest g) Q (Prod.mk 16 (Prod.mk (List.cons l0 (List.cons l1 (List.cons l2 (List.cons l3 List.nil)))) (Prod.mk st (Prod.mk w (Prod.mk k n))))) := Eq.trans (bipush_e rfl (oy_16 qx_cX1_digest_0 11 8 rfl rfl rfl) (by decide)) (icm_e ((8 : Int32) ≤ a) rfl (oy_162 qx_cX1_digest_0 13 0 21 rfl rfl rfl rfl) rfl (by decide))
theorem eX1_digest_16 {g : RO} {Q : Ot → Hw → Prop} {w : Hw} {x : Int64} {st : List Value} {k n p : Nat} {l2 l3 : Option Value} : WP (MX1_digest g) Q (Prod.mk 16 (Prod.mk (List.cons (Option.some (Value.ref p)) (List.cons (Option.some (Value.long x)) (List.cons l2 (List.cons l3 List.nil)))) (Prod.mk st (Prod.mk w (Prod.mk k n))))) = go (rd g w p) 5 fun fs => ∃ v, fs[0]? = some v ∧ WP (MX1_digest g) Q (Prod.mk 22 (Prod.mk (List.cons (Option.some (Value.ref p)) (List.cons (Option.some (Value.long x)) (List.cons l2 (List.cons l3 List.nil)))) (Prod.mk (List.cons v (List.cons (Value.long x) (List.cons (Value.ref p) st))) (Prod.mk w (Prod.mk k n))))) := Eq.trans (alnR_e rfl (oy_42 qx_cX1_digest_0 16 rfl) rfl) (Eq.trans (lln_e rfl (oy_31 qx_cX1_digest_0 17 rfl) rfl) (Eq.trans (alnR_e rfl (oy_42 qx_cX1_digest_0 18 rfl) rfl) (get_e rfl (oy_180 qx_cX1_digest_0 19 0 9 rfl rfl rfl rfl) rfl)))
theorem eX1_digest_22 {g : RO} {Q : Ot → Hw → Prop} {w : Hw} {a : Int32} {st : List Value} {k n p : Nat} {l0 l1 l2 : Option Value} : WP (MX1_digest g) Q (Prod.mk 22 (Prod.mk (List.cons l0 (List.cons l1 (List.cons l2 (List.cons (Option.some (Value.int a)) List.nil)))) (Prod.mk (List.cons (Value.ref p) st) (Prod.mk w (Prod.mk k n))))) = gl (rd g w p) 0 fun N f => vp_in a N ∧ WP (MX1_digest g) Q (Prod.mk 24 (Prod.mk (List.cons l0 (List.cons l1 (List.cons l2 (List.cons (Option.some (Value.int a)) List.nil)))) (Prod.mk (List.cons (Value.long (f a.toNatClampNeg)) st) (Prod.mk w (Prod.mk k n))))) := Eq.trans (iln_e rfl (oy_29 qx_cX1_digest_0 22 rfl) rfl) (laload_e rfl (oy_47 qx_cX1_digest_0 23 rfl))
theorem eX1_digest_24 {g : RO} {Q : Ot → Hw → Prop} {st : List Value} {w : Hw} {k n p : Nat} {l0 l1 l2 l3 : Option Value} {z0 : Int64} {z1 : Int64} : WP (MX1_digest g) Q (Prod.mk 24 (Prod.mk (List.cons l0 (List.cons l1 (List.cons l2 (List.cons l3 List.nil)))) (Prod.mk (List.cons (Value.long z1) (List.cons (Value.long z0) (List.cons (Value.ref p) st))) (Prod.mk w (Prod.mk k n))))) = (go (rd g w p) 5 (fun _ => True) ∧ wt st ≤ 8 ∧ k + 0 ≤ 24 ∧ n + 0 ≤ 96 ∧ WP (MX1_withNumber g) (kx (fun v w' => WP (MX1_digest g) Q (Prod.mk 27 (Prod.mk (List.cons l0 (List.cons l1 (List.cons l2 (List.cons l3 List.nil)))) (Prod.mk (v.toList ++ st) (Prod.mk w' (Prod.mk (k + 0) (n + 0))))))) (fun E w' => Q (.inr E) w')) (Prod.mk 0 (Prod.mk (List.cons (Option.some (Value.ref p)) (List.cons (Option.some (Value.long z0)) (List.cons none (List.cons (Option.some (Value.long z1)) (List.cons none (List.cons none (List.cons none List.nil))))))) (Prod.mk List.nil (Prod.mk w (Prod.mk 0 0)))))) := csV0 (M := (MX1_digest g)) (mc := (fun _ _ => 0)) (ms := (fun _ _ => 0)) (As := [.long z0, .long z1]) (rest := st) (MX1_withNumber g) rfl rfl rfl (oy_182 qx_cX1_digest_0 24 0 223 rfl rfl rfl rfl) rfl rfl rfl rfl rfl rfl
theorem eX1_digest_27 {g : RO} {Q : Ot → Hw → Prop} {w : Hw} {a : Int32} {x : Int64} {st : List Value} {k n : Nat} {l0 l1 l2 : Option Value} : WP (MX1_digest g) Q (Prod.mk 27 (Prod.mk (List.cons l0 (List.cons l1 (List.cons l2 (List.cons (Option.some (Value.int a)) List.nil)))) (Prod.mk (List.cons (Value.long x) st) (Prod.mk w (Prod.mk k n))))) = WP (MX1_digest g) Q (Prod.mk 10 (Prod.mk (List.cons (nl l0) (List.cons (Option.some (Value.long x)) (List.cons (nl none) (List.cons (Option.some (Value.int (a + 1))) List.nil)))) (Prod.mk st (Prod.mk w (Prod.mk k n))))) := Eq.trans (lsn_e rfl (oy_64 qx_cX1_digest_0 27 rfl) rfl rfl) (Eq.trans (Eq.trans (iinc_e (M := (MX1_digest g)) (L := [(nl l0), (Option.some (Value.long x)), none, some (.int a)]) (d := 1) rfl (oy_132 qx_cX1_digest_0 28 3 1 rfl rfl rfl rfl) (by decide) rfl) rfl) (goto_e rfl (oy_167 qx_cX1_digest_0 31 255 235 rfl rfl rfl rfl) (by decide)))
theorem eX1_digest_34 {g : RO} {Q : Ot → Hw → Prop} {w : Hw} {st : List Value} {k n : Nat} {l0 l1 l2 l3 : Option Value} : WP (MX1_digest g) Q (Prod.mk 34 (Prod.mk (List.cons l0 (List.cons l1 (List.cons l2 (List.cons l3 List.nil)))) (Prod.mk st (Prod.mk w (Prod.mk k n))))) = WP (MX1_digest g) Q (Prod.mk 36 (Prod.mk (List.cons l0 (List.cons l1 (List.cons (nl l2) (List.cons (Option.some (Value.int (0 : Int32))) List.nil)))) (Prod.mk st (Prod.mk w (Prod.mk k n))))) := Eq.trans (ic_0 rfl (oy_3 qx_cX1_digest_1 2 rfl)) (isn_e rfl (oy_62 qx_cX1_digest_1 3 rfl) rfl rfl)
theorem eX1_digest_36 {g : RO} {Q : Ot → Hw → Prop} {st : List Value} {w : Hw} {k n : Nat} {a : Int32} {l0 l1 l2 : Option Value} : WP (MX1_digest g) Q (Prod.mk 36 (Prod.mk (List.cons l0 (List.cons l1 (List.cons l2 (List.cons (Option.some (Value.int a)) List.nil)))) (Prod.mk st (Prod.mk w (Prod.mk k n))))) = WP (MX1_digest g) Q (Prod.mk 37 (Prod.mk (List.cons l0 (List.cons l1 (List.cons l2 (List.cons (Option.some (Value.int a)) List.nil)))) (Prod.mk (List.cons (Value.int a) st) (Prod.mk w (Prod.mk k n))))) := iln_e rfl (oy_29 qx_cX1_digest_1 4 rfl) rfl
theorem eX1_digest_37 {g : RO} {Q : Ot → Hw → Prop} {w : Hw} {a : Int32} {st : List Value} {k n : Nat} {l0 l1 l2 l3 : Option Value} : WP (MX1_digest g) Q (Prod.mk 37 (Prod.mk (List.cons l0 (List.cons l1 (List.cons l2 (List.cons l3 List.nil)))) (Prod.mk (List.cons (Value.int a) st) (Prod.mk w (Prod.mk k n))))) = if (6 : Int32) ≤ a then WP (MX1_digest g) Q (Prod.mk 60 (Prod.mk (List.cons l0 (List.cons l1 (List.cons l2 (List.cons l3 List.nil)))) (Prod.mk st (Prod.mk w (Prod.mk k n))))) else WP (MX1_digest g) Q (Prod.mk 42 (Prod.mk (List.cons l0 (List.cons l1 (List.cons l2 (List.cons l3 List.nil)))) (Prod.mk st (Prod.mk w (Prod.mk k n))))) := Eq.trans (bipush_e rfl (oy_16 qx_cX1_digest_1 5 6 rfl rfl rfl) (by decide)) (icm_e ((6 : Int32) ≤ a) rfl (oy_162 qx_cX1_digest_1 7 0 21 rfl rfl rfl rfl) rfl (by decide))
theorem eX1_digest_42 {g : RO} {Q : Ot → Hw → Prop} {w : Hw} {x : Int64} {st : List Value} {k n p : Nat} {l2 l3 : Option Value} : WP (MX1_digest g) Q (Prod.mk 42 (Prod.mk (List.cons (Option.some (Value.ref p)) (List.cons (Option.some (Value.long x)) (List.cons l2 (List.cons l3 List.nil)))) (Prod.mk st (Prod.mk w (Prod.mk k n))))) = go (rd g w p) 5 fun fs => ∃ v, fs[1]? = some v ∧ WP (MX1_digest g) Q (Prod.mk 48 (Prod.mk (List.cons (Option.some (Value.ref p)) (List.cons (Option.some (Value.long x)) (List.cons l2 (List.cons l3 List.nil)))) (Prod.mk (List.cons v (List.cons (Value.long x) (List.cons (Value.ref p) st))) (Prod.mk w (Prod.mk k n))))) := Eq.trans (alnR_e rfl (oy_42 qx_cX1_digest_1 10 rfl) rfl) (Eq.trans (lln_e rfl (oy_31 qx_cX1_digest_1 11 rfl) rfl) (Eq.trans (alnR_e rfl (oy_42 qx_cX1_digest_1 12 rfl) rfl) (get_e rfl (oy_180 qx_cX1_digest_1 13 0 15 rfl rfl rfl rfl) rfl)))
theorem eX1_digest_48 {g : RO} {Q : Ot → Hw → Prop} {w : Hw} {a : Int32} {st : List Value} {k n p : Nat} {l0 l1 l2 : Option Value} : WP (MX1_digest g) Q (Prod.mk 48 (Prod.mk (List.cons l0 (List.cons l1 (List.cons l2 (List.cons (Option.some (Value.int a)) List.nil)))) (Prod.mk (List.cons (Value.ref p) st) (Prod.mk w (Prod.mk k n))))) = gq (rd g w p) fun t N f => (t = 4 ∨ t = 5) ∧ vp_in a N ∧ WP (MX1_digest g) Q (Prod.mk 50 (Prod.mk (List.cons l0 (List.cons l1 (List.cons l2 (List.cons (Option.some (Value.int a)) List.nil)))) (Prod.mk (List.cons (va_rf (f a.toNatClampNeg)) st) (Prod.mk w (Prod.mk k n))))) := Eq.trans (iln_e rfl (oy_29 qx_cX1_digest_1 16 rfl) rfl) (aaload_e rfl (oy_50 qx_cX1_digest_1 17 rfl))
theorem eX1_digest_50R {g : RO} {Q : Ot → Hw → Prop} {st : List Value} {w : Hw} {k n p : Nat} {l0 l1 l2 l3 : Option Value} {z0 : Int64} {z1 : Nat} : WP (MX1_digest g) Q (Prod.mk 50 (Prod.mk (List.cons l0 (List.cons l1 (List.cons l2 (List.cons l3 List.nil)))) (Prod.mk (List.cons (Value.ref z1) (List.cons (Value.long z0) (List.cons (Value.ref p) st))) (Prod.mk w (Prod.mk k n))))) = (go (rd g w p) 5 (fun _ => True) ∧ wt st ≤ 8 ∧ k + 0 ≤ 24 ∧ n + 0 ≤ 96 ∧ WP (MX1_withCard g) (kx (fun v w' => WP (MX1_digest g) Q (Prod.mk 53 (Prod.mk (List.cons l0 (List.cons l1 (List.cons l2 (List.cons l3 List.nil)))) (Prod.mk (v.toList ++ st) (Prod.mk w' (Prod.mk (k + 0) (n + 0))))))) (fun E w' => Q (.inr E) w')) (Prod.mk 0 (Prod.mk (List.cons (Option.some (Value.ref p)) (List.cons (Option.some (Value.long z0)) (List.cons none (List.cons (Option.some (Value.ref z1)) (List.cons none (List.cons none (List.cons none List.nil))))))) (Prod.mk List.nil (Prod.mk w (Prod.mk 0 0)))))) := csV0 (M := (MX1_digest g)) (mc := (fun _ _ => 0)) (ms := (fun _ _ => 0)) (As := [.long z0, .ref z1]) (rest := st) (MX1_withCard g) rfl rfl rfl (oy_182 qx_cX1_digest_1 18 0 227 rfl rfl rfl rfl) rfl rfl rfl rfl rfl rfl
theorem eX1_digest_50N {g : RO} {Q : Ot → Hw → Prop} {st : List Value} {w : Hw} {k n p : Nat} {l0 l1 l2 l3 : Option Value} {z0 : Int64} : WP (MX1_digest g) Q (Prod.mk 50 (Prod.mk (List.cons l0 (List.cons l1 (List.cons l2 (List.cons l3 List.nil)))) (Prod.mk (List.cons Value.null (List.cons (Value.long z0) (List.cons (Value.ref p) st))) (Prod.mk w (Prod.mk k n))))) = (go (rd g w p) 5 (fun _ => True) ∧ wt st ≤ 8 ∧ k + 0 ≤ 24 ∧ n + 0 ≤ 96 ∧ WP (MX1_withCard g) (kx (fun v w' => WP (MX1_digest g) Q (Prod.mk 53 (Prod.mk (List.cons l0 (List.cons l1 (List.cons l2 (List.cons l3 List.nil)))) (Prod.mk (v.toList ++ st) (Prod.mk w' (Prod.mk (k + 0) (n + 0))))))) (fun E w' => Q (.inr E) w')) (Prod.mk 0 (Prod.mk (List.cons (Option.some (Value.ref p)) (List.cons (Option.some (Value.long z0)) (List.cons none (List.cons (Option.some Value.null) (List.cons none (List.cons none (List.cons none List.nil))))))) (Prod.mk List.nil (Prod.mk w (Prod.mk 0 0)))))) := csV0 (M := (MX1_digest g)) (mc := (fun _ _ => 0)) (ms := (fun _ _ => 0)) (As := [.long z0, .null]) (rest := st) (MX1_withCard g) rfl rfl rfl (oy_182 qx_cX1_digest_1 18 0 227 rfl rfl rfl rfl) rfl rfl rfl rfl rfl rfl
theorem eX1_digest_53 {g : RO} {Q : Ot → Hw → Prop} {w : Hw} {a : Int32} {x : Int64} {st : List Value} {k n : Nat} {l0 l1 l2 : Option Value} : WP (MX1_digest g) Q (Prod.mk 53 (Prod.mk (List.cons l0 (List.cons l1 (List.cons l2 (List.cons (Option.some (Value.int a)) List.nil)))) (Prod.mk (List.cons (Value.long x) st) (Prod.mk w (Prod.mk k n))))) = WP (MX1_digest g) Q (Prod.mk 36 (Prod.mk (List.cons (nl l0) (List.cons (Option.some (Value.long x)) (List.cons (nl none) (List.cons (Option.some (Value.int (a + 1))) List.nil)))) (Prod.mk st (Prod.mk w (Prod.mk k n))))) := Eq.trans (lsn_e rfl (oy_64 qx_cX1_digest_1 21 rfl) rfl rfl) (Eq.trans (Eq.trans (iinc_e (M := (MX1_digest g)) (L := [(nl l0), (Option.some (Value.long x)), none, some (.int a)]) (d := 1) rfl (oy_132 qx_cX1_digest_1 22 3 1 rfl rfl rfl rfl) (by decide) rfl) rfl) (goto_e rfl (oy_167 qx_cX1_digest_1 25 255 235 rfl rfl rfl rfl) (by decide)))
theorem eX1_digest_60 {g : RO} {Q : Ot → Hw → Prop} {w : Hw} {z0 : Int64} {st : List Value} {k n p : Nat} {l2 l3 : Option Value} : WP (MX1_digest g) Q (Prod.mk 60 (Prod.mk (List.cons (Option.some (Value.ref p)) (List.cons (Option.some (Value.long z0)) (List.cons l2 (List.cons l3 List.nil)))) (Prod.mk st (Prod.mk w (Prod.mk k n))))) = (go (rd g w p) 5 (fun _ => True) ∧ wt st ≤ 8 ∧ k + 0 ≤ 24 ∧ n + 0 ≤ 96 ∧ WP (MX1_withWhichAndPile g) (kx (fun v w' => WP (MX1_digest g) Q (Prod.mk 65 (Prod.mk (List.cons (Option.some (Value.ref p)) (List.cons (Option.some (Value.long z0)) (List.cons l2 (List.cons l3 List.nil)))) (Prod.mk (v.toList ++ st) (Prod.mk w' (Prod.mk (k + 0) (n + 0))))))) (fun E w' => Q (.inr E) w')) (Prod.mk 0 (Prod.mk (List.cons (Option.some (Value.ref p)) (List.cons (Option.some (Value.long z0)) (List.cons none (List.cons none (List.cons none (List.cons none List.nil)))))) (Prod.mk List.nil (Prod.mk w (Prod.mk 0 0)))))) := Eq.trans (alnR_e rfl (oy_42 qx_cX1_digest_1 28 rfl) rfl) (Eq.trans (lln_e rfl (oy_31 qx_cX1_digest_1 29 rfl) rfl) (csV0 (M := (MX1_digest g)) (mc := (fun _ _ => 0)) (ms := (fun _ _ => 0)) (As := [.long z0]) (rest := st) (MX1_withWhichAndPile g) rfl rfl rfl (oy_182 qx_cX1_digest_1 30 0 231 rfl rfl rfl rfl) rfl rfl rfl rfl rfl rfl))
theorem eX1_digest_65 {g : RO} {Q : Ot → Hw → Prop} {w : Hw} {x : Int64} {st : List Value} {k n : Nat} {l0 l1 l2 l3 : Option Value} : WP (MX1_digest g) Q (Prod.mk 65 (Prod.mk (List.cons l0 (List.cons l1 (List.cons l2 (List.cons l3 List.nil)))) (Prod.mk (List.cons (Value.long x) st) (Prod.mk w (Prod.mk k n))))) = WP (MX1_digest g) Q (Prod.mk 67 (Prod.mk (List.cons (nl l0) (List.cons (Option.some (Value.long x)) (List.cons none (List.cons l3 List.nil)))) (Prod.mk (List.cons (Value.long x) st) (Prod.mk w (Prod.mk k n))))) := Eq.trans (lsn_e rfl (oy_64 qx_cX1_digest_2 1 rfl) rfl rfl) (lln_e rfl (oy_31 qx_cX1_digest_2 2 rfl) rfl)
theorem eX1_digest_67 {g : RO} {Q : Ot → Hw → Prop} {w : Hw} {st : List Value} {k n p : Nat} {l1 l2 l3 : Option Value} : WP (MX1_digest g) Q (Prod.mk 67 (Prod.mk (List.cons (Option.some (Value.ref p)) (List.cons l1 (List.cons l2 (List.cons l3 List.nil)))) (Prod.mk st (Prod.mk w (Prod.mk k n))))) = (go (rd g w p) 5 (fun _ => True) ∧ wt st ≤ 8 ∧ k + 24 ≤ 24 ∧ n + 96 ≤ 96 ∧ WP (MX1_isSound g) (kx (fun v w' => WP (MX1_digest g) Q (Prod.mk 71 (Prod.mk (List.cons (Option.some (Value.ref p)) (List.cons l1 (List.cons l2 (List.cons l3 List.nil)))) (Prod.mk (v.toList ++ st) (Prod.mk w' (Prod.mk (k + 24) (n + 96))))))) (fun E w' => Q (.inr E) w')) (Prod.mk 0 (Prod.mk (List.cons (Option.some (Value.ref p)) (List.cons none (List.cons none List.nil))) (Prod.mk List.nil (Prod.mk w (Prod.mk 0 0)))))) := Eq.trans (alnR_e rfl (oy_42 qx_cX1_digest_2 3 rfl) rfl) (csV0 (M := (MX1_digest g)) (mc := (fun _ _ => 24)) (ms := (fun _ _ => 96)) (As := []) (rest := st) (MX1_isSound g) rfl rfl rfl (oy_182 qx_cX1_digest_2 4 0 234 rfl rfl rfl rfl) rfl rfl rfl rfl rfl rfl)
theorem eX1_digest_71 {g : RO} {Q : Ot → Hw → Prop} {st : List Value} {w : Hw} {k n : Nat} {l0 l1 l2 l3 : Option Value} {z0 : Int32} : WP (MX1_digest g) Q (Prod.mk 71 (Prod.mk (List.cons l0 (List.cons l1 (List.cons l2 (List.cons l3 List.nil)))) (Prod.mk (List.cons (Value.int z0) st) (Prod.mk w (Prod.mk k n))))) = (wt st ≤ 8 ∧ k + 0 ≤ 24 ∧ n + 0 ≤ 96 ∧ WP (MX1_asNumber g) (kx (fun v w' => WP (MX1_digest g) Q (Prod.mk 74 (Prod.mk (List.cons l0 (List.cons l1 (List.cons l2 (List.cons l3 List.nil)))) (Prod.mk (v.toList ++ st) (Prod.mk w' (Prod.mk (k + 0) (n + 0))))))) (fun E w' => Q (.inr E) w')) (Prod.mk 0 (Prod.mk (List.cons (Option.some (Value.int z0)) List.nil) (Prod.mk List.nil (Prod.mk w (Prod.mk 0 0)))))) := csS0 (M := (MX1_digest g)) (mc := (fun _ _ => 0)) (ms := (fun _ _ => 0)) (As := [.int z0]) (rest := st) (MX1_asNumber g) rfl rfl rfl (oy_184 qx_cX1_digest_2 7 0 130 rfl rfl rfl rfl) rfl rfl rfl rfl rfl rfl rfl
theorem eX1_digest_74 {g : RO} {Q : Ot → Hw → Prop} {w : Hw} {a : Int32} {z0 : Int64} {st : List Value} {k n : Nat} {l0 l1 l2 l3 : Option Value} : WP (MX1_digest g) Q (Prod.mk 74 (Prod.mk (List.cons l0 (List.cons l1 (List.cons l2 (List.cons l3 List.nil)))) (Prod.mk (List.cons (Value.int a) (List.cons (Value.long z0) st)) (Prod.mk w (Prod.mk k n))))) = (wt st ≤ 8 ∧ k + 0 ≤ 24 ∧ n + 0 ≤ 96 ∧ WP (MX1_with g) (kx (fun v w' => WP (MX1_digest g) Q (Prod.mk 78 (Prod.mk (List.cons l0 (List.cons l1 (List.cons l2 (List.cons l3 List.nil)))) (Prod.mk (v.toList ++ st) (Prod.mk w' (Prod.mk (k + 0) (n + 0))))))) (fun E w' => Q (.inr E) w')) (Prod.mk 0 (Prod.mk (List.cons (Option.some (Value.long z0)) (List.cons none (List.cons (Option.some (Value.long (a.toInt64 : Int64))) (List.cons none List.nil)))) (Prod.mk List.nil (Prod.mk w (Prod.mk 0 0)))))) := Eq.trans (i2l_e rfl (oy_133 qx_cX1_digest_2 10 rfl)) (csS0 (M := (MX1_digest g)) (mc := (fun _ _ => 0)) (ms := (fun _ _ => 0)) (As := [.long z0, .long (a.toInt64 : Int64)]) (rest := st) (MX1_with g) rfl rfl rfl (oy_184 qx_cX1_digest_2 11 0 237 rfl rfl rfl rfl) rfl rfl rfl rfl rfl rfl rfl)
theorem eX1_digest_78 {g : RO} {Q : Ot → Hw → Prop} {w : Hw} {k n : Nat} {x : Int64} {l0 l1 l2 l3 : Option Value} : WP (MX1_digest g) Q (Prod.mk 78 (Prod.mk (List.cons l0 (List.cons l1 (List.cons l2 (List.cons l3 List.nil)))) (Prod.mk (List.cons (Value.long x) List.nil) (Prod.mk w (Prod.mk k n))))) = (k ≤ 24 ∧ n ≤ 96 ∧ Q (.inl (Option.some (Value.long x))) w) := lret_e rfl (oy_173 qx_cX1_digest_2 14 rfl) rfl
theorem wk_248 : (.constantLong RX1 217 (7783) : Jvm.Cond) ∈ WS := WS_t1 190 (by eq_refl) (by eq_refl)
theorem wk_252 : (.code yX1_withHouse cX1_withHouse 6 (some .long) : Jvm.Cond) ∈ WS := WS_t1 194 (by eq_refl) (by eq_refl)
theorem wk_249 : (.methodLink RX1 219 yX1_withHouse : Jvm.Cond) ∈ WS := WS_t1 191 (by eq_refl) (by eq_refl)
theorem wk_251 : (.instanceMethod yX1_withHouse : Jvm.Cond) ∈ WS := WS_t1 193 (by eq_refl) (by eq_refl)
theorem wk_13 : (.selects RX1 yX1_withHouse yX1_withHouse : Jvm.Cond) ∈ WS := WS_at 13 (by decide +kernel) rfl
theorem wk_271 : (.code yX1_withNumber cX1_withNumber 7 (some .long) : Jvm.Cond) ∈ WS := WS_t1 213 (by eq_refl) (by eq_refl)
theorem wk_268 : (.methodLink RX1 223 yX1_withNumber : Jvm.Cond) ∈ WS := WS_t1 210 (by eq_refl) (by eq_refl)
theorem wk_270 : (.instanceMethod yX1_withNumber : Jvm.Cond) ∈ WS := WS_t1 212 (by eq_refl) (by eq_refl)
theorem wk_16 : (.selects RX1 yX1_withNumber yX1_withNumber : Jvm.Cond) ∈ WS := WS_at 16 (by decide +kernel) rfl
theorem wk_290 : (.code yX1_withCard cX1_withCard 7 (some .long) : Jvm.Cond) ∈ WS := WS_t1 232 (by eq_refl) (by eq_refl)
theorem wk_287 : (.methodLink RX1 227 yX1_withCard : Jvm.Cond) ∈ WS := WS_t1 229 (by eq_refl) (by eq_refl)
theorem wk_289 : (.instanceMethod yX1_withCard : Jvm.Cond) ∈ WS := WS_t1 231 (by eq_refl) (by eq_refl)
theorem wk_19 : (.selects RX1 yX1_withCard yX1_withCard : Jvm.Cond) ∈ WS := WS_at 19 (by decide +kernel) rfl
theorem wk_315 : (.code yX1_withWhichAndPile cX1_withWhichAndPile 6 (some .long) : Jvm.Cond) ∈ WS := WS_t2 17 (by eq_refl) (by eq_refl)
theorem wk_312 : (.methodLink RX1 231 yX1_withWhichAndPile : Jvm.Cond) ∈ WS := WS_t2 14 (by eq_refl) (by eq_refl)
theorem wk_314 : (.instanceMethod yX1_withWhichAndPile : Jvm.Cond) ∈ WS := WS_t2 16 (by eq_refl) (by eq_refl)
theorem wk_23 : (.selects RX1 yX1_withWhichAndPile yX1_withWhichAndPile : Jvm.Cond) ∈ WS := WS_at 23 (by decide +kernel) rfl
theorem wk_136 : (.code yX1_isSound cX1_isSound 3 (some .boolean) : Jvm.Cond) ∈ WS := WS_t1 78 (by eq_refl) (by eq_refl)
theorem wk_331 : (.methodLink RX1 234 yX1_isSound : Jvm.Cond) ∈ WS := WS_t2 33 (by eq_refl) (by eq_refl)
theorem wk_134 : (.instanceMethod yX1_isSound : Jvm.Cond) ∈ WS := WS_t1 76 (by eq_refl) (by eq_refl)
theorem wk_135 : (.selects RX1 yX1_isSound yX1_isSound : Jvm.Cond) ∈ WS := WS_t1 77 (by eq_refl) (by eq_refl)
theorem pd75 : (parseMethodDescriptor "(J)J").map (fun d => d.parameters.length + 1) = some 2 := by decide +kernel
theorem kc_130 {l : Launch} (hl : l.stackTraces = false) {G : GT} {own : String} {i : Nat} (hw : Jvm.Cond.methodLink own i yX1_withHouse ∈ WS) : vCal l G own i (2, 2, 5, 4, (fun _ _ => 0), (fun _ _ => 0), yX1_withHouse, spOf (MX1_withHouse (gg G))) := ⟨cX1_withHouse, 6, some .long, fun y hy => by subst hy; exact ⟨Nat.le_of_ble_eq_true rfl, ⟨_, wk_252, okX1_withHouse hl, Or.inl ⟨Nat.ne_of_beq_eq_false rfl, rfl⟩⟩, wk_59, nc14, ⟨pd75, hw, wk_251, wk_13, (RX1, TX1, 7), rfl, rfl⟩⟩⟩
theorem pd76 : (parseMethodDescriptor "(JJ)J").map (fun d => d.parameters.length + 1) = some 3 := by decide +kernel
theorem kc_131 {l : Launch} (hl : l.stackTraces = false) {G : GT} {own : String} {i : Nat} (hw : Jvm.Cond.methodLink own i yX1_withNumber ∈ WS) : vCal l G own i (2, 3, 5, 5, (fun _ _ => 0), (fun _ _ => 0), yX1_withNumber, spOf (MX1_withNumber (gg G))) := ⟨cX1_withNumber, 7, some .long, fun y hy => by subst hy; exact ⟨Nat.le_of_ble_eq_true rfl, ⟨_, wk_271, okX1_withNumber hl, Or.inl ⟨Nat.ne_of_beq_eq_false rfl, rfl⟩⟩, wk_59, nc14, ⟨pd76, hw, wk_270, wk_16, (RX1, TX1, 7), rfl, rfl⟩⟩⟩
theorem pd77 : (parseMethodDescriptor "(JLRangecard$Range;)J").map (fun d => d.parameters.length + 1) = some 3 := by decide +kernel
theorem kc_132 {l : Launch} (hl : l.stackTraces = false) {G : GT} {own : String} {i : Nat} (hw : Jvm.Cond.methodLink own i yX1_withCard ∈ WS) : vCal l G own i (2, 3, 5, 6, (fun _ _ => 0), (fun _ _ => 0), yX1_withCard, spOf (MX1_withCard (gg G))) := ⟨cX1_withCard, 7, some .long, fun y hy => by subst hy; exact ⟨Nat.le_of_ble_eq_true rfl, ⟨_, wk_290, okX1_withCard hl, Or.inl ⟨Nat.ne_of_beq_eq_false rfl, rfl⟩⟩, wk_59, nc14, ⟨pd77, hw, wk_289, wk_19, (RX1, TX1, 7), rfl, rfl⟩⟩⟩
theorem kc_133 {l : Launch} (hl : l.stackTraces = false) {G : GT} {own : String} {i : Nat} (hw : Jvm.Cond.methodLink own i yX1_withWhichAndPile ∈ WS) : vCal l G own i (2, 2, 5, 5, (fun _ _ => 0), (fun _ _ => 0), yX1_withWhichAndPile, spOf (MX1_withWhichAndPile (gg G))) := ⟨cX1_withWhichAndPile, 6, some .long, fun y hy => by subst hy; exact ⟨Nat.le_of_ble_eq_true rfl, ⟨_, wk_315, okX1_withWhichAndPile hl, Or.inl ⟨Nat.ne_of_beq_eq_false rfl, rfl⟩⟩, wk_59, nc14, ⟨pd75, hw, wk_314, wk_23, (RX1, TX1, 7), rfl, rfl⟩⟩⟩
theorem kc_134 {l : Launch} (hl : l.stackTraces = false) {G : GT} {own : String} {i : Nat} (hw : Jvm.Cond.methodLink own i yX1_isSound ∈ WS) : vCal l G own i (2, 1, 5, 6, (fun _ _ => 24), (fun _ _ => 96), yX1_isSound, spOf (MX1_isSound (gg G))) := ⟨cX1_isSound, 3, some .boolean, fun y hy => by subst hy; exact ⟨Nat.le_of_ble_eq_true rfl, ⟨_, wk_136, okX1_isSound hl, Or.inl ⟨Nat.ne_of_beq_eq_false rfl, rfl⟩⟩, wk_59, nc14, ⟨pd3, hw, wk_134, wk_135, (RX1, TX1, 7), rfl, rfl⟩⟩⟩
theorem vMX1_digest {l : Launch} (hl : l.stackTraces = false) (G : GT) : vM l G (MX1_digest (gg G)) := vM_k RX1 cX1_digest rfl rfl (all_c (vF_RX1_9) (all_c (vF_RX1_15) (all_n))) all_n all_n (all_c (wk_248) (all_n)) all_n (fun h => absurd rfl h) (all_c (kc_130 hl wk_249) (all_c (kc_131 hl wk_268) (all_c (kc_132 hl wk_287) (all_c (kc_133 hl wk_312) (all_c (kc_134 hl wk_331) (all_c (kc_86 hl wk_261) (all_c (kc_106 hl wk_264) (all_n)))))))) all_n all_n (fun h => absurd rfl h) rfl all_n
theorem okX1_digest {l : Launch} (hl : l.stackTraces = false) {G : GT} : ∀ (args : List Value) (w : Hw) (S : Ot → Hw → Prop), spOf (MX1_digest (gg G)) args w S → CX l G yX1_digest (.code yX1_digest cX1_digest 4 (some .long)) 7 24 96 args w S := CX_sp (M := MX1_digest (gg G)) (y := yX1_digest) hl pn16 rfl (vMX1_digest hl G) (fun h => by cases h) rfl
end
/-! 66.texz.lean.txt -/
section
theorem qx_cX1_appendBackwards_0 : ((cX1_appendBackwards.data.toList.drop 0).take 38).map UInt8.toNat = [31, 66, 3, 54, 5, 21, 5, 16, 19, 162, 0, 38, 42, 33, 20, 1, 8, 113, 136, 184, 1, 10, 182, 1, 15, 87, 33, 20, 1, 8, 109, 66, 33, 9, 148, 154, 0, 6] := by decide +kernel
theorem qx_cX1_appendBackwards_1 : ((cX1_appendBackwards.data.toList.drop 32).take 38).map UInt8.toNat = [33, 9, 148, 154, 0, 6, 167, 0, 9, 132, 5, 1, 167, 255, 217, 31, 9, 148, 156, 0, 10, 42, 16, 45, 182, 0, 146, 87, 177] := by decide +kernel
noncomputable def MX1_appendBackwards (g : RO) : MT := ((RX1, cX1_appendBackwards, 6, 6, 3, 246, false, none), [], [], [], [(264, 10)], [], 0, [(271, 2, 2, 1, 5, kfI, sfI, yJ4_append_bf812, spF (MJ4_append_bf812 g) kfI sfI), (146, 2, 2, 1, 5, kfI, sfI, yJ4_append_cf468, spF (MJ4_append_cf468 g) kfI sfI)], [(266, 14)], [], 0, [], [], g)
theorem eX1_appendBackwards_0 {g : RO} {Q : Ot → Hw → Prop} {w : Hw} {x : Int64} {st : List Value} {k n : Nat} {l0 l2 l3 l4 l5 : Option Value} : WP (MX1_appendBackwards g) Q (Prod.mk 0 (Prod.mk (List.cons l0 (List.cons (Option.some (Value.long x)) (List.cons l2 (List.cons l3 (List.cons l4 (List.cons l5 List.nil)))))) (Prod.mk st (Prod.mk w (Prod.mk k n))))) = WP (MX1_appendBackwards g) Q (Prod.mk 5 (Prod.mk (List.cons l0 (List.cons (Option.some (Value.long x)) (List.cons (nl l2) (List.cons (Option.some (Value.long x)) (List.cons (nl none) (List.cons (Option.some (Value.int (0 : Int32))) List.nil)))))) (Prod.mk st (Prod.mk w (Prod.mk k n))))) := Eq.trans (lln_e rfl (oy_31 qx_cX1_appendBackwards_0 0 rfl) rfl) (Eq.trans (lsn_e rfl (oy_66 qx_cX1_appendBackwards_0 1 rfl) rfl rfl) (Eq.trans (ic_0 rfl (oy_3 qx_cX1_appendBackwards_0 2 rfl)) (is_e rfl (oy_54 qx_cX1_appendBackwards_0 3 5 rfl rfl) rfl rfl)))
theorem eX1_appendBackwards_5 {g : RO} {Q : Ot → Hw → Prop} {st : List Value} {w : Hw} {k n : Nat} {a : Int32} {l0 l1 l2 l3 l4 : Option Value} : WP (MX1_appendBackwards g) Q (Prod.mk 5 (Prod.mk (List.cons l0 (List.cons l1 (List.cons l2 (List.cons l3 (List.cons l4 (List.cons (Option.some (Value.int a)) List.nil)))))) (Prod.mk st (Prod.mk w (Prod.mk k n))))) = WP (MX1_appendBackwards g) Q (Prod.mk 7 (Prod.mk (List.cons l0 (List.cons l1 (List.cons l2 (List.cons l3 (List.cons l4 (List.cons (Option.some (Value.int a)) List.nil)))))) (Prod.mk (List.cons (Value.int a) st) (Prod.mk w (Prod.mk k n))))) := il_e rfl (oy_21 qx_cX1_appendBackwards_0 5 5 rfl rfl) rfl
theorem eX1_appendBackwards_7 {g : RO} {Q : Ot → Hw → Prop} {w : Hw} {a : Int32} {st : List Value} {k n : Nat} {l0 l1 l2 l3 l4 l5 : Option Value} : WP (MX1_appendBackwards g) Q (Prod.mk 7 (Prod.mk (List.cons l0 (List.cons l1 (List.cons l2 (List.cons l3 (List.cons l4 (List.cons l5 List.nil)))))) (Prod.mk (List.cons (Value.int a) st) (Prod.mk w (Prod.mk k n))))) = if (19 : Int32) ≤ a then WP (MX1_appendBackwards g) Q (Prod.mk 47 (Prod.mk (List.cons l0 (List.cons l1 (List.cons l2 (List.cons l3 (List.cons l4 (List.cons l5 List.nil)))))) (Prod.mk st (Prod.mk w (Prod.mk k n))))) else WP (MX1_appendBackwards g) Q (Prod.mk 12 (Prod.mk (List.cons l0 (List.cons l1 (List.cons l2 (List.cons l3 (List.cons l4 (List.cons l5 List.nil)))))) (Prod.mk st (Prod.mk w (Prod.mk k n))))) := Eq.trans (bipush_e rfl (oy_16 qx_cX1_appendBackwards_0 7 19 rfl rfl rfl) (by decide)) (icm_e ((19 : Int32) ≤ a) rfl (oy_162 qx_cX1_appendBackwards_0 9 0 38 rfl rfl rfl rfl) rfl (by decide))
theorem eX1_appendBackwards_12 {g : RO} {Q : Ot → Hw → Prop} {st : List Value} {w : Hw} {k n p : Nat} {l1 l2 l3 l4 l5 : Option Value} : WP (MX1_appendBackwards g) Q (Prod.mk 12 (Prod.mk (List.cons (Option.some (Value.ref p)) (List.cons l1 (List.cons l2 (List.cons l3 (List.cons l4 (List.cons l5 List.nil)))))) (Prod.mk st (Prod.mk w (Prod.mk k n))))) = WP (MX1_appendBackwards g) Q (Prod.mk 13 (Prod.mk (List.cons (Option.some (Value.ref p)) (List.cons l1 (List.cons l2 (List.cons l3 (List.cons l4 (List.cons l5 List.nil)))))) (Prod.mk (List.cons (Value.ref p) st) (Prod.mk w (Prod.mk k n))))) := alnR_e rfl (oy_42 qx_cX1_appendBackwards_0 12 rfl) rfl
theorem eX1_appendBackwards_12N {g : RO} {Q : Ot → Hw → Prop} {st : List Value} {w : Hw} {k n : Nat} {l1 l2 l3 l4 l5 : Option Value} : WP (MX1_appendBackwards g) Q (Prod.mk 12 (Prod.mk (List.cons (Option.some Value.null) (List.cons l1 (List.cons l2 (List.cons l3 (List.cons l4 (List.cons l5 List.nil)))))) (Prod.mk st (Prod.mk w (Prod.mk k n))))) = WP (MX1_appendBackwards g) Q (Prod.mk 13 (Prod.mk (List.cons (Option.some Value.null) (List.cons l1 (List.cons l2 (List.cons l3 (List.cons l4 (List.cons l5 List.nil)))))) (Prod.mk (List.cons Value.null st) (Prod.mk w (Prod.mk k n))))) := alnN_e rfl (oy_42 qx_cX1_appendBackwards_0 12 rfl) rfl
theorem eX1_appendBackwards_13 {g : RO} {Q : Ot → Hw → Prop} {w : Hw} {x : Int64} {st : List Value} {k n : Nat} {l0 l1 l2 l4 l5 : Option Value} : WP (MX1_appendBackwards g) Q (Prod.mk 13 (Prod.mk (List.cons l0 (List.cons l1 (List.cons l2 (List.cons (Option.some (Value.long x)) (List.cons l4 (List.cons l5 List.nil)))))) (Prod.mk st (Prod.mk w (Prod.mk k n))))) = (¬ (10 : Int64) = 0 ∧ WP (MX1_appendBackwards g) Q (Prod.mk 18 (Prod.mk (List.cons l0 (List.cons l1 (List.cons l2 (List.cons (Option.some (Value.long x)) (List.cons l4 (List.cons l5 List.nil)))))) (Prod.mk (List.cons (Value.long (x - x / (10 : Int64) * (10 : Int64))) st) (Prod.mk w (Prod.mk k n)))))) := Eq.trans (lln_e rfl (oy_33 qx_cX1_appendBackwards_0 13 rfl) rfl) (Eq.trans (ldc2_e rfl (oy_20 qx_cX1_appendBackwards_0 14 1 8 rfl rfl rfl rfl) rfl) (Eq.trans (WP_at (M := (MX1_appendBackwards g)) rfl (oy_113 qx_cX1_appendBackwards_0 17 rfl) (Or.inr rfl)) rfl))
theorem eX1_appendBackwards_18 {g : RO} {Q : Ot → Hw → Prop} {w : Hw} {x : Int64} {st : List Value} {k n : Nat} {l0 l1 l2 l3 l4 l5 : Option Value} : WP (MX1_appendBackwards g) Q (Prod.mk 18 (Prod.mk (List.cons l0 (List.cons l1 (List.cons l2 (List.cons l3 (List.cons l4 (List.cons l5 List.nil)))))) (Prod.mk (List.cons (Value.long x) st) (Prod.mk w (Prod.mk k n))))) = (wt st ≤ 8 ∧ k ≤ 3 ∧ n ≤ 246 ∧ WP (MX1_appendBackwards g) Q (Prod.mk 22 (Prod.mk (List.cons l0 (List.cons l1 (List.cons l2 (List.cons l3 (List.cons l4 (List.cons l5 List.nil)))))) (Prod.mk (List.cons (Value.int (if 0 ≤ (x.toInt32 : Int32) then (x.toInt32 : Int32) else 0 - (x.toInt32 : Int32))) st) (Prod.mk w (Prod.mk k n)))))) := Eq.trans (l2i_e rfl (oy_136 qx_cX1_appendBackwards_0 18 rfl)) (mabs_e rfl (oy_184 qx_cX1_appendBackwards_0 19 1 10 rfl rfl rfl rfl) (Nat.ne_of_beq_eq_false rfl) rfl (Nat.le_of_ble_eq_true rfl))
theorem eX1_appendBackwards_22 {g : RO} {Q : Ot → Hw → Prop} {st : List Value} {w : Hw} {k n p : Nat} {l0 l1 l2 l3 l4 l5 : Option Value} {z0 : Int32} : WP (MX1_appendBackwards g) Q (Prod.mk 22 (Prod.mk (List.cons l0 (List.cons l1 (List.cons l2 (List.cons l3 (List.cons l4 (List.cons l5 List.nil)))))) (Prod.mk (List.cons (Value.int z0) (List.cons (Value.ref p) st)) (Prod.mk w (Prod.mk k n))))) = (go (rd g w p) 1 (fun _ => True) ∧ wt st ≤ 8 ∧ k + kfI [Value.ref p, Value.int z0] w ≤ 3 ∧ n + sfI [Value.ref p, Value.int z0] w ≤ 246 ∧ WP (MJ4_append_bf812 g (kfI [Value.ref p, Value.int z0] w) (sfI [Value.ref p, Value.int z0] w)) (kx (fun v w' => WP (MX1_appendBackwards g) Q (Prod.mk 25 (Prod.mk (List.cons l0 (List.cons l1 (List.cons l2 (List.cons l3 (List.cons l4 (List.cons l5 List.nil)))))) (Prod.mk (v.toList ++ st) (Prod.mk w' (Prod.mk (k + kfI [Value.ref p, Value.int z0] w) (n + sfI [Value.ref p, Value.int z0] w))))))) (fun E w' => Q (.inr E) w')) (Prod.mk 0 (Prod.mk (List.cons (Option.some (Value.ref p)) (List.cons (Option.some (Value.int z0)) List.nil)) (Prod.mk List.nil (Prod.mk w (Prod.mk 0 0)))))) := csV (M := (MX1_appendBackwards g)) (mc := kfI) (ms := sfI) (As := [.int z0]) (rest := st) (MJ4_append_bf812 g (kfI [.ref p, .int z0] w) (sfI [.ref p, .int z0] w)) rfl rfl (oy_182 qx_cX1_appendBackwards_0 22 1 15 rfl rfl rfl rfl) (by exact fun h => nomatch (show (none : Option Nat) = some 11 from h)) (by exact fun h => nomatch (show (none : Option Nat) = some 15 from h)) rfl rfl (by decide) (Nat.le_of_ble_eq_true rfl) (Nat.le_of_ble_eq_true rfl) rfl
theorem eX1_appendBackwards_25 {g : RO} {Q : Ot → Hw → Prop} {st : List Value} {w : Hw} {k n : Nat} {a : Int32} {l0 l1 l2 l3 l4 l5 : Option Value} : WP (MX1_appendBackwards g) Q (Prod.mk 25 (Prod.mk (List.cons l0 (List.cons l1 (List.cons l2 (List.cons l3 (List.cons l4 (List.cons l5 List.nil)))))) (Prod.mk (List.cons (Value.int a) st) (Prod.mk w (Prod.mk k n))))) = WP (MX1_appendBackwards g) Q (Prod.mk 26 (Prod.mk (List.cons l0 (List.cons l1 (List.cons l2 (List.cons l3 (List.cons l4 (List.cons l5 List.nil)))))) (Prod.mk st (Prod.mk w (Prod.mk k n))))) := popI_e rfl (oy_87 qx_cX1_appendBackwards_0 25 rfl)
theorem eX1_appendBackwards_25R {g : RO} {Q : Ot → Hw → Prop} {st : List Value} {w : Hw} {k n p : Nat} {l0 l1 l2 l3 l4 l5 : Option Value} : WP (MX1_appendBackwards g) Q (Prod.mk 25 (Prod.mk (List.cons l0 (List.cons l1 (List.cons l2 (List.cons l3 (List.cons l4 (List.cons l5 List.nil)))))) (Prod.mk (List.cons (Value.ref p) st) (Prod.mk w (Prod.mk k n))))) = WP (MX1_appendBackwards g) Q (Prod.mk 26 (Prod.mk (List.cons l0 (List.cons l1 (List.cons l2 (List.cons l3 (List.cons l4 (List.cons l5 List.nil)))))) (Prod.mk st (Prod.mk w (Prod.mk k n))))) := popR_e rfl (oy_87 qx_cX1_appendBackwards_0 25 rfl)
theorem eX1_appendBackwards_25N {g : RO} {Q : Ot → Hw → Prop} {st : List Value} {w : Hw} {k n : Nat} {l0 l1 l2 l3 l4 l5 : Option Value} : WP (MX1_appendBackwards g) Q (Prod.mk 25 (Prod.mk (List.cons l0 (List.cons l1 (List.cons l2 (List.cons l3 (List.cons l4 (List.cons l5 List.nil)))))) (Prod.mk (List.cons Value.null st) (Prod.mk w (Prod.mk k n))))) = WP (MX1_appendBackwards g) Q (Prod.mk 26 (Prod.mk (List.cons l0 (List.cons l1 (List.cons l2 (List.cons l3 (List.cons l4 (List.cons l5 List.nil)))))) (Prod.mk st (Prod.mk w (Prod.mk k n))))) := popN_e rfl (oy_87 qx_cX1_appendBackwards_0 25 rfl)
theorem eX1_appendBackwards_26 {g : RO} {Q : Ot → Hw → Prop} {w : Hw} {x : Int64} {st : List Value} {k n : Nat} {l0 l1 l2 l4 l5 : Option Value} : WP (MX1_appendBackwards g) Q (Prod.mk 26 (Prod.mk (List.cons l0 (List.cons l1 (List.cons l2 (List.cons (Option.some (Value.long x)) (List.cons l4 (List.cons l5 List.nil)))))) (Prod.mk st (Prod.mk w (Prod.mk k n))))) = (¬ (10 : Int64) = 0 ∧ WP (MX1_appendBackwards g) Q (Prod.mk 31 (Prod.mk (List.cons l0 (List.cons l1 (List.cons l2 (List.cons (Option.some (Value.long x)) (List.cons l4 (List.cons l5 List.nil)))))) (Prod.mk (List.cons (Value.long (x / (10 : Int64))) st) (Prod.mk w (Prod.mk k n)))))) := Eq.trans (lln_e rfl (oy_33 qx_cX1_appendBackwards_0 26 rfl) rfl) (Eq.trans (ldc2_e rfl (oy_20 qx_cX1_appendBackwards_0 27 1 8 rfl rfl rfl rfl) rfl) (Eq.trans (WP_at (M := (MX1_appendBackwards g)) rfl (oy_109 qx_cX1_appendBackwards_0 30 rfl) (Or.inr rfl)) rfl))
theorem eX1_appendBackwards_31 {g : RO} {Q : Ot → Hw → Prop} {w : Hw} {x : Int64} {st : List Value} {k n : Nat} {l0 l1 l2 l3 l4 l5 : Option Value} : WP (MX1_appendBackwards g) Q (Prod.mk 31 (Prod.mk (List.cons l0 (List.cons l1 (List.cons l2 (List.cons l3 (List.cons l4 (List.cons l5 List.nil)))))) (Prod.mk (List.cons (Value.long x) st) (Prod.mk w (Prod.mk k n))))) = if (lg_cmp x 0) = 0 then WP (MX1_appendBackwards g) Q (Prod.mk 38 (Prod.mk (List.cons l0 (List.cons l1 (List.cons (nl l2) (List.cons (Option.some (Value.long x)) (List.cons none (List.cons l5 List.nil)))))) (Prod.mk st (Prod.mk w (Prod.mk k n))))) else WP (MX1_appendBackwards g) Q (Prod.mk 41 (Prod.mk (List.cons l0 (List.cons l1 (List.cons (nl l2) (List.cons (Option.some (Value.long x)) (List.cons none (List.cons l5 List.nil)))))) (Prod.mk st (Prod.mk w (Prod.mk k n))))) := Eq.trans (lsn_e rfl (oy_66 qx_cX1_appendBackwards_0 31 rfl) rfl rfl) (Eq.trans (lln_e rfl (oy_33 qx_cX1_appendBackwards_1 0 rfl) rfl) (Eq.trans (lconst_e rfl (oy_9 qx_cX1_appendBackwards_1 1 rfl) (by decide)) (Eq.trans (lcmp_e rfl (oy_148 qx_cX1_appendBackwards_1 2 rfl)) (ifcn_e ((lg_cmp x 0) = 0) rfl (oy_154 qx_cX1_appendBackwards_1 3 0 6 rfl rfl rfl rfl) rfl (by decide)))))
theorem eX1_appendBackwards_38 {g : RO} {Q : Ot → Hw → Prop} {st : List Value} {w : Hw} {k n : Nat} {l0 l1 l2 l3 l4 l5 : Option Value} : WP (MX1_appendBackwards g) Q (Prod.mk 38 (Prod.mk (List.cons l0 (List.cons l1 (List.cons l2 (List.cons l3 (List.cons l4 (List.cons l5 List.nil)))))) (Prod.mk st (Prod.mk w (Prod.mk k n))))) = WP (MX1_appendBackwards g) Q (Prod.mk 47 (Prod.mk (List.cons l0 (List.cons l1 (List.cons l2 (List.cons l3 (List.cons l4 (List.cons l5 List.nil)))))) (Prod.mk st (Prod.mk w (Prod.mk k n))))) := goto_e rfl (oy_167 qx_cX1_appendBackwards_1 6 0 9 rfl rfl rfl rfl) (by decide)
theorem eX1_appendBackwards_41 {g : RO} {Q : Ot → Hw → Prop} {w : Hw} {a : Int32} {st : List Value} {k n : Nat} {l0 l1 l2 l3 l4 : Option Value} : WP (MX1_appendBackwards g) Q (Prod.mk 41 (Prod.mk (List.cons l0 (List.cons l1 (List.cons l2 (List.cons l3 (List.cons l4 (List.cons (Option.some (Value.int a)) List.nil)))))) (Prod.mk st (Prod.mk w (Prod.mk k n))))) = WP (MX1_appendBackwards g) Q (Prod.mk 5 (Prod.mk (List.cons l0 (List.cons l1 (List.cons l2 (List.cons l3 (List.cons (nl l4) (List.cons (Option.some (Value.int (a + 1))) List.nil)))))) (Prod.mk st (Prod.mk w (Prod.mk k n))))) := Eq.trans (Eq.trans (iinc_e (M := (MX1_appendBackwards g)) (L := [l0, l1, l2, l3, l4, some (.int a)]) (d := 1) rfl (oy_132 qx_cX1_appendBackwards_1 9 5 1 rfl rfl rfl rfl) (by decide) rfl) rfl) (goto_e rfl (oy_167 qx_cX1_appendBackwards_1 12 255 217 rfl rfl rfl rfl) (by decide))
theorem eX1_appendBackwards_47 {g : RO} {Q : Ot → Hw → Prop} {w : Hw} {x : Int64} {st : List Value} {k n : Nat} {l0 l2 l3 l4 l5 : Option Value} : WP (MX1_appendBackwards g) Q (Prod.mk 47 (Prod.mk (List.cons l0 (List.cons (Option.some (Value.long x)) (List.cons l2 (List.cons l3 (List.cons l4 (List.cons l5 List.nil)))))) (Prod.mk st (Prod.mk w (Prod.mk k n))))) = if 0 ≤ (lg_cmp x 0) then WP (MX1_appendBackwards g) Q (Prod.mk 60 (Prod.mk (List.cons l0 (List.cons (Option.some (Value.long x)) (List.cons l2 (List.cons l3 (List.cons l4 (List.cons l5 List.nil)))))) (Prod.mk st (Prod.mk w (Prod.mk k n))))) else WP (MX1_appendBackwards g) Q (Prod.mk 53 (Prod.mk (List.cons l0 (List.cons (Option.some (Value.long x)) (List.cons l2 (List.cons l3 (List.cons l4 (List.cons l5 List.nil)))))) (Prod.mk st (Prod.mk w (Prod.mk k n))))) := Eq.trans (lln_e rfl (oy_31 qx_cX1_appendBackwards_1 15 rfl) rfl) (Eq.trans (lconst_e rfl (oy_9 qx_cX1_appendBackwards_1 16 rfl) (by decide)) (Eq.trans (lcmp_e rfl (oy_148 qx_cX1_appendBackwards_1 17 rfl)) (ifc_e (0 ≤ (lg_cmp x 0)) rfl (oy_156 qx_cX1_appendBackwards_1 18 0 10 rfl rfl rfl rfl) rfl (by decide))))
theorem eX1_appendBackwards_53 {g : RO} {Q : Ot → Hw → Prop} {st : List Value} {w : Hw} {k n p : Nat} {l1 l2 l3 l4 l5 : Option Value} : WP (MX1_appendBackwards g) Q (Prod.mk 53 (Prod.mk (List.cons (Option.some (Value.ref p)) (List.cons l1 (List.cons l2 (List.cons l3 (List.cons l4 (List.cons l5 List.nil)))))) (Prod.mk st (Prod.mk w (Prod.mk k n))))) = WP (MX1_appendBackwards g) Q (Prod.mk 54 (Prod.mk (List.cons (Option.some (Value.ref p)) (List.cons l1 (List.cons l2 (List.cons l3 (List.cons l4 (List.cons l5 List.nil)))))) (Prod.mk (List.cons (Value.ref p) st) (Prod.mk w (Prod.mk k n))))) := alnR_e rfl (oy_42 qx_cX1_appendBackwards_1 21 rfl) rfl
theorem eX1_appendBackwards_53N {g : RO} {Q : Ot → Hw → Prop} {st : List Value} {w : Hw} {k n : Nat} {l1 l2 l3 l4 l5 : Option Value} : WP (MX1_appendBackwards g) Q (Prod.mk 53 (Prod.mk (List.cons (Option.some Value.null) (List.cons l1 (List.cons l2 (List.cons l3 (List.cons l4 (List.cons l5 List.nil)))))) (Prod.mk st (Prod.mk w (Prod.mk k n))))) = WP (MX1_appendBackwards g) Q (Prod.mk 54 (Prod.mk (List.cons (Option.some Value.null) (List.cons l1 (List.cons l2 (List.cons l3 (List.cons l4 (List.cons l5 List.nil)))))) (Prod.mk (List.cons Value.null st) (Prod.mk w (Prod.mk k n))))) := alnN_e rfl (oy_42 qx_cX1_appendBackwards_1 21 rfl) rfl
theorem eX1_appendBackwards_54 {g : RO} {Q : Ot → Hw → Prop} {w : Hw} {st : List Value} {k n p : Nat} {l0 l1 l2 l3 l4 l5 : Option Value} : WP (MX1_appendBackwards g) Q (Prod.mk 54 (Prod.mk (List.cons l0 (List.cons l1 (List.cons l2 (List.cons l3 (List.cons l4 (List.cons l5 List.nil)))))) (Prod.mk (List.cons (Value.ref p) st) (Prod.mk w (Prod.mk k n))))) = (go (rd g w p) 1 (fun _ => True) ∧ wt st ≤ 8 ∧ k + kfI [Value.ref p, Value.int (45 : Int32)] w ≤ 3 ∧ n + sfI [Value.ref p, Value.int (45 : Int32)] w ≤ 246 ∧ WP (MJ4_append_cf468 g (kfI [Value.ref p, Value.int (45 : Int32)] w) (sfI [Value.ref p, Value.int (45 : Int32)] w)) (kx (fun v w' => WP (MX1_appendBackwards g) Q (Prod.mk 59 (Prod.mk (List.cons l0 (List.cons l1 (List.cons l2 (List.cons l3 (List.cons l4 (List.cons l5 List.nil)))))) (Prod.mk (v.toList ++ st) (Prod.mk w' (Prod.mk (k + kfI [Value.ref p, Value.int (45 : Int32)] w) (n + sfI [Value.ref p, Value.int (45 : Int32)] w))))))) (fun E w' => Q (.inr E) w')) (Prod.mk 0 (Prod.mk (List.cons (Option.some (Value.ref p)) (List.cons (Option.some (Value.int (45 : Int32))) List.nil)) (Prod.mk List.nil (Prod.mk w (Prod.mk 0 0)))))) := Eq.trans (bipush_e rfl (oy_16 qx_cX1_appendBackwards_1 22 45 rfl rfl rfl) (by decide)) (csV (M := (MX1_appendBackwards g)) (mc := kfI) (ms := sfI) (As := [.int (45 : Int32)]) (rest := st) (MJ4_append_cf468 g (kfI [.ref p, .int (45 : Int32)] w) (sfI [.ref p, .int (45 : Int32)] w)) rfl rfl (oy_182 qx_cX1_appendBackwards_1 24 0 146 rfl rfl rfl rfl) (by exact fun h => nomatch (show (none : Option Nat) = some 11 from h)) (by exact fun h => nomatch (show (none : Option Nat) = some 15 from h)) rfl rfl (by decide) (Nat.le_of_ble_eq_true rfl) (Nat.le_of_ble_eq_true rfl) rfl)
theorem eX1_appendBackwards_59 {g : RO} {Q : Ot → Hw → Prop} {st : List Value} {w : Hw} {k n : Nat} {a : Int32} {l0 l1 l2 l3 l4 l5 : Option Value} : WP (MX1_appendBackwards g) Q (Prod.mk 59 (Prod.mk (List.cons l0 (List.cons l1 (List.cons l2 (List.cons l3 (List.cons l4 (List.cons l5 List.nil)))))) (Prod.mk (List.cons (Value.int a) st) (Prod.mk w (Prod.mk k n))))) = WP (MX1_appendBackwards g) Q (Prod.mk 60 (Prod.mk (List.cons l0 (List.cons l1 (List.cons l2 (List.cons l3 (List.cons l4 (List.cons l5 List.nil)))))) (Prod.mk st (Prod.mk w (Prod.mk k n))))) := popI_e rfl (oy_87 qx_cX1_appendBackwards_1 27 rfl)
theorem eX1_appendBackwards_59R {g : RO} {Q : Ot → Hw → Prop} {st : List Value} {w : Hw} {k n p : Nat} {l0 l1 l2 l3 l4 l5 : Option Value} : WP (MX1_appendBackwards g) Q (Prod.mk 59 (Prod.mk (List.cons l0 (List.cons l1 (List.cons l2 (List.cons l3 (List.cons l4 (List.cons l5 List.nil)))))) (Prod.mk (List.cons (Value.ref p) st) (Prod.mk w (Prod.mk k n))))) = WP (MX1_appendBackwards g) Q (Prod.mk 60 (Prod.mk (List.cons l0 (List.cons l1 (List.cons l2 (List.cons l3 (List.cons l4 (List.cons l5 List.nil)))))) (Prod.mk st (Prod.mk w (Prod.mk k n))))) := popR_e rfl (oy_87 qx_cX1_appendBackwards_1 27 rfl)
theorem eX1_appendBackwards_59N {g : RO} {Q : Ot → Hw → Prop} {st : List Value} {w : Hw} {k n : Nat} {l0 l1 l2 l3 l4 l5 : Option Value} : WP (MX1_appendBackwards g) Q (Prod.mk 59 (Prod.mk (List.cons l0 (List.cons l1 (List.cons l2 (List.cons l3 (List.cons l4 (List.cons l5 List.nil)))))) (Prod.mk (List.cons Value.null st) (Prod.mk w (Prod.mk k n))))) = WP (MX1_appendBackwards g) Q (Prod.mk 60 (Prod.mk (List.cons l0 (List.cons l1 (List.cons l2 (List.cons l3 (List.cons l4 (List.cons l5 List.nil)))))) (Prod.mk st (Prod.mk w (Prod.mk k n))))) := popN_e rfl (oy_87 qx_cX1_appendBackwards_1 27 rfl)
theorem eX1_appendBackwards_60 {g : RO} {Q : Ot → Hw → Prop} {w : Hw} {k n : Nat} {l0 l1 l2 l3 l4 l5 : Option Value} : WP (MX1_appendBackwards g) Q (Prod.mk 60 (Prod.mk (List.cons l0 (List.cons l1 (List.cons l2 (List.cons l3 (List.cons l4 (List.cons l5 List.nil)))))) (Prod.mk List.nil (Prod.mk w (Prod.mk k n))))) = (k ≤ 3 ∧ n ≤ 246 ∧ Q (.inl none) w) := vret_e rfl (oy_177 qx_cX1_appendBackwards_1 28 rfl) rfl
theorem wk_533 : (.constantLong RX1 264 (10) : Jvm.Cond) ∈ WS := WS_t2 235 (by eq_refl) (by eq_refl)
theorem wk_540 : (.code yJ4_append_bf812 cJ4_append_bf812 2 (some (.object "java/lang/StringBuilder")) : Jvm.Cond) ∈ WS := WS_t3 2 (by eq_refl) (by eq_refl)
theorem wk_537 : (.methodLink RX1 271 yJ4_append_bf812 : Jvm.Cond) ∈ WS := WS_t2 239 (by eq_refl) (by eq_refl)
theorem wk_538 : (.instanceMethod yJ4_append_bf812 : Jvm.Cond) ∈ WS := WS_t3 0 (by eq_refl) (by eq_refl)
theorem wk_539 : (.selects RJ4 yJ4_append_bf812 yJ4_append_bf812 : Jvm.Cond) ∈ WS := WS_t3 1 (by eq_refl) (by eq_refl)
theorem wk_628 : (.code yJ4_append_cf468 cJ4_append_cf468 2 (some (.object "java/lang/StringBuilder")) : Jvm.Cond) ∈ WS := WS_t3 90 (by eq_refl) (by eq_refl)
theorem wk_625 : (.methodLink RX1 146 yJ4_append_cf468 : Jvm.Cond) ∈ WS := WS_t3 87 (by eq_refl) (by eq_refl)
theorem wk_626 : (.instanceMethod yJ4_append_cf468 : Jvm.Cond) ∈ WS := WS_t3 88 (by eq_refl) (by eq_refl)
theorem wk_627 : (.selects RJ4 yJ4_append_cf468 yJ4_append_cf468 : Jvm.Cond) ∈ WS := WS_t3 89 (by eq_refl) (by eq_refl)
theorem wk_534 : (.methodLink RX1 266 Lib.Math.abs.name : Jvm.Cond) ∈ WS := WS_t2 236 (by eq_refl) (by eq_refl)
theorem pd78 : (parseMethodDescriptor "(I)Ljava/lang/StringBuilder;").map (fun d => d.parameters.length + 1) = some 2 := by decide +kernel
theorem kc_135 {l : Launch} (hl : l.stackTraces = false) {G : GT} {own : String} {i : Nat} (hw : Jvm.Cond.methodLink own i yJ4_append_bf812 ∈ WS) : vCal l G own i (2, 2, 1, 5, kfI, sfI, yJ4_append_bf812, spF (MJ4_append_bf812 (gg G)) kfI sfI) := ⟨cJ4_append_bf812, 2, some (.object "java/lang/StringBuilder"), fun y hy => by subst hy; exact ⟨Nat.le_of_ble_eq_true rfl, ⟨_, wk_540, okJ4_append_bf812 hl, Or.inl ⟨Nat.ne_of_beq_eq_false rfl, rfl⟩⟩, wk_75, nc12, ⟨pd78, hw, wk_538, wk_539, (RJ4, TJ4, 4), rfl, rfl⟩⟩⟩
theorem pd79 : (parseMethodDescriptor "(C)Ljava/lang/StringBuilder;").map (fun d => d.parameters.length + 1) = some 2 := by decide +kernel
theorem kc_136 {l : Launch} (hl : l.stackTraces = false) {G : GT} {own : String} {i : Nat} (hw : Jvm.Cond.methodLink own i yJ4_append_cf468 ∈ WS) : vCal l G own i (2, 2, 1, 5, kfI, sfI, yJ4_append_cf468, spF (MJ4_append_cf468 (gg G)) kfI sfI) := ⟨cJ4_append_cf468, 2, some (.object "java/lang/StringBuilder"), fun y hy => by subst hy; exact ⟨Nat.le_of_ble_eq_true rfl, ⟨_, wk_628, okJ4_append_cf468 hl, Or.inl ⟨Nat.ne_of_beq_eq_false rfl, rfl⟩⟩, wk_75, nc12, ⟨pd79, hw, wk_626, wk_627, (RJ4, TJ4, 4), rfl, rfl⟩⟩⟩
theorem vMX1_appendBackwards {l : Launch} (hl : l.stackTraces = false) (G : GT) : vM l G (MX1_appendBackwards (gg G)) := vM_k RX1 cX1_appendBackwards rfl rfl all_n all_n all_n (all_c (wk_533) (all_n)) all_n (fun h => absurd rfl h) (all_c (kc_135 hl wk_537) (all_c (kc_136 hl wk_625) (all_n))) (all_c (Or.inr (Or.inr (Or.inr (Or.inr (Or.inr (Or.inr (Or.inr (Or.inl ⟨rfl, wk_534⟩)))))))) (all_n)) all_n (fun h => absurd rfl h) rfl all_n
theorem okX1_appendBackwards {l : Launch} (hl : l.stackTraces = false) {G : GT} : ∀ (args : List Value) (w : Hw) (S : Ot → Hw → Prop), spOf (MX1_appendBackwards (gg G)) args w S → CX l G yX1_appendBackwards (.code yX1_appendBackwards cX1_appendBackwards 6 (none)) 6 3 246 args w S := CX_sp (M := MX1_appendBackwards (gg G)) (y := yX1_appendBackwards) hl pn16 rfl (vMX1_appendBackwards hl G) (fun h => by cases h) rfl
theorem qx_cX1_numberText_0 : ((cX1_numberText.data.toList.drop 0).take 38).map UInt8.toNat = [27, 184, 0, 35, 187, 0, 64, 89, 183, 0, 66, 77, 44, 42, 180, 0, 9, 27, 47, 184, 0, 67, 44, 182, 0, 71, 182, 0, 75, 176] := by decide +kernel
noncomputable def MX1_numberText (g : RO) : MT := ((RX1, cX1_numberText, 3, 7, 8, 366, false, some (.object "java/lang/String")), [(9, 5, 0)], [(64, 1, [.null, .int 0, .int 0, .int 0])], [], [], [], 0, [(35, 0, 1, 0, 6, (fun _ _ => 1), (fun _ _ => 6), yX1_needNumber, spOf (MX1_needNumber g)), (66, 4, 1, 1, 2, (fun _ _ => 1), (fun _ _ => 16), yJ4_init_da8c8, spOf (MJ4_init_da8c8 g)), (67, 0, 2, 0, 6, (fun _ _ => 3), (fun _ _ => 246), yX1_appendBackwards, spOf (MX1_appendBackwards g)), (71, 2, 1, 1, 3, (fun _ _ => 0), (fun _ _ => 0), yJ4_reverse_43fcb, spOf (MJ4_reverse_43fcb g)), (75, 2, 1, 1, 6, (fun _ _ => 2), (fun _ _ => 94), yJ4_toString_0e30d, spOf (MJ4_toString_0e30d g))], [], [], 0, [], [], g)
theorem eX1_numberText_0 {g : RO} {Q : Ot → Hw → Prop} {w : Hw} {z0 : Int32} {st : List Value} {k n : Nat} {l0 l2 : Option Value} : WP (MX1_numberText g) Q (Prod.mk 0 (Prod.mk (List.cons l0 (List.cons (Option.some (Value.int z0)) (List.cons l2 List.nil))) (Prod.mk st (Prod.mk w (Prod.mk k n))))) = (wt st ≤ 8 ∧ k + 1 ≤ 8 ∧ n + 6 ≤ 366 ∧ WP (MX1_needNumber g) (kx (fun v w' => WP (MX1_numberText g) Q (Prod.mk 4 (Prod.mk (List.cons l0 (List.cons (Option.some (Value.int z0)) (List.cons l2 List.nil))) (Prod.mk (v.toList ++ st) (Prod.mk w' (Prod.mk (k + 1) (n + 6))))))) (fun E w' => Q (.inr E) w')) (Prod.mk 0 (Prod.mk (List.cons (Option.some (Value.int z0)) List.nil) (Prod.mk List.nil (Prod.mk w (Prod.mk 0 0)))))) := Eq.trans (iln_e rfl (oy_27 qx_cX1_numberText_0 0 rfl) rfl) (csS0 (M := (MX1_numberText g)) (mc := (fun _ _ => 1)) (ms := (fun _ _ => 6)) (As := [.int z0]) (rest := st) (MX1_needNumber g) rfl rfl rfl (oy_184 qx_cX1_numberText_0 1 0 35 rfl rfl rfl rfl) rfl rfl rfl rfl rfl rfl rfl)
theorem eX1_numberText_4 {g : RO} {Q : Ot → Hw → Prop} {st : List Value} {w : Hw} {k n : Nat} {l0 l1 l2 : Option Value} : WP (MX1_numberText g) Q (Prod.mk 4 (Prod.mk (List.cons l0 (List.cons l1 (List.cons l2 List.nil))) (Prod.mk st (Prod.mk w (Prod.mk k n))))) = (k + 1 ≤ 8 ∧ n + 4 ≤ 366 ∧ ∀ q : Nat, rd g w q = none → WP (MX1_numberText g) Q (Prod.mk 7 (Prod.mk (List.cons l0 (List.cons l1 (List.cons l2 List.nil))) (Prod.mk (List.cons (Value.ref q) st) (Prod.mk (upw w q (.inr (1, [Value.null, Value.int 0, Value.int 0, Value.int 0]))) (Prod.mk (k + 1) (n + 4))))))) := Eq.trans (new_e (M := (MX1_numberText g)) (fs := [.null, .int 0, .int 0, .int 0]) rfl (oy_187 qx_cX1_numberText_0 4 0 64 rfl rfl rfl rfl) rfl) rfl
theorem eX1_numberText_7 {g : RO} {Q : Ot → Hw → Prop} {st : List Value} {w : Hw} {k n : Nat} {a : Int32} {l0 l1 l2 : Option Value} : WP (MX1_numberText g) Q (Prod.mk 7 (Prod.mk (List.cons l0 (List.cons l1 (List.cons l2 List.nil))) (Prod.mk (List.cons (Value.int a) st) (Prod.mk w (Prod.mk k n))))) = WP (MX1_numberText g) Q (Prod.mk 8 (Prod.mk (List.cons l0 (List.cons l1 (List.cons l2 List.nil))) (Prod.mk (List.cons (Value.int a) (List.cons (Value.int a) st)) (Prod.mk w (Prod.mk k n))))) := dupI_e rfl (oy_89 qx_cX1_numberText_0 7 rfl)
theorem eX1_numberText_7R {g : RO} {Q : Ot → Hw → Prop} {st : List Value} {w : Hw} {k n p : Nat} {l0 l1 l2 : Option Value} : WP (MX1_numberText g) Q (Prod.mk 7 (Prod.mk (List.cons l0 (List.cons l1 (List.cons l2 List.nil))) (Prod.mk (List.cons (Value.ref p) st) (Prod.mk w (Prod.mk k n))))) = WP (MX1_numberText g) Q (Prod.mk 8 (Prod.mk (List.cons l0 (List.cons l1 (List.cons l2 List.nil))) (Prod.mk (List.cons (Value.ref p) (List.cons (Value.ref p) st)) (Prod.mk w (Prod.mk k n))))) := dupR_e rfl (oy_89 qx_cX1_numberText_0 7 rfl)
theorem eX1_numberText_8 {g : RO} {Q : Ot → Hw → Prop} {st : List Value} {w : Hw} {k n p : Nat} {l0 l1 l2 : Option Value} : WP (MX1_numberText g) Q (Prod.mk 8 (Prod.mk (List.cons l0 (List.cons l1 (List.cons l2 List.nil))) (Prod.mk (List.cons (Value.ref p) st) (Prod.mk w (Prod.mk k n))))) = (wt st ≤ 8 ∧ k + 1 ≤ 8 ∧ n + 16 ≤ 366 ∧ WP (MJ4_init_da8c8 g) (kx (fun v w' => WP (MX1_numberText g) Q (Prod.mk 11 (Prod.mk (List.cons l0 (List.cons l1 (List.cons l2 List.nil))) (Prod.mk (v.toList ++ st) (Prod.mk w' (Prod.mk (k + 1) (n + 16))))))) (fun E w' => Q (.inr E) w')) (Prod.mk 0 (Prod.mk (List.cons (Option.some (Value.ref p)) List.nil) (Prod.mk List.nil (Prod.mk w (Prod.mk 0 0)))))) := csI (M := (MX1_numberText g)) (mc := (fun _ _ => 1)) (ms := (fun _ _ => 16)) (As := []) (rest := st) (MJ4_init_da8c8 g) rfl rfl (oy_183 qx_cX1_numberText_0 8 0 66 rfl rfl rfl rfl) (Nat.ne_of_beq_eq_false rfl) rfl rfl (Nat.le_of_ble_eq_true rfl) (Nat.le_of_ble_eq_true rfl) rfl
theorem eX1_numberText_11 {g : RO} {Q : Ot → Hw → Prop} {st : List Value} {w : Hw} {k n p : Nat} {l0 l1 l2 : Option Value} : WP (MX1_numberText g) Q (Prod.mk 11 (Prod.mk (List.cons l0 (List.cons l1 (List.cons l2 List.nil))) (Prod.mk (List.cons (Value.ref p) st) (Prod.mk w (Prod.mk k n))))) = WP (MX1_numberText g) Q (Prod.mk 12 (Prod.mk (List.cons l0 (List.cons (nl l1) (List.cons (Option.some (Value.ref p)) List.nil))) (Prod.mk st (Prod.mk w (Prod.mk k n))))) := asnR_e rfl (oy_77 qx_cX1_numberText_0 11 rfl) rfl rfl
theorem eX1_numberText_11N {g : RO} {Q : Ot → Hw → Prop} {st : List Value} {w : Hw} {k n : Nat} {l0 l1 l2 : Option Value} : WP (MX1_numberText g) Q (Prod.mk 11 (Prod.mk (List.cons l0 (List.cons l1 (List.cons l2 List.nil))) (Prod.mk (List.cons Value.null st) (Prod.mk w (Prod.mk k n))))) = WP (MX1_numberText g) Q (Prod.mk 12 (Prod.mk (List.cons l0 (List.cons (nl l1) (List.cons (Option.some (Value.null)) List.nil))) (Prod.mk st (Prod.mk w (Prod.mk k n))))) := asnN_e rfl (oy_77 qx_cX1_numberText_0 11 rfl) rfl rfl
theorem eX1_numberText_12 {g : RO} {Q : Ot → Hw → Prop} {st : List Value} {w : Hw} {k n p : Nat} {l0 l1 : Option Value} : WP (MX1_numberText g) Q (Prod.mk 12 (Prod.mk (List.cons l0 (List.cons l1 (List.cons (Option.some (Value.ref p)) List.nil))) (Prod.mk st (Prod.mk w (Prod.mk k n))))) = WP (MX1_numberText g) Q (Prod.mk 13 (Prod.mk (List.cons l0 (List.cons l1 (List.cons (Option.some (Value.ref p)) List.nil))) (Prod.mk (List.cons (Value.ref p) st) (Prod.mk w (Prod.mk k n))))) := alnR_e rfl (oy_44 qx_cX1_numberText_0 12 rfl) rfl
theorem eX1_numberText_12N {g : RO} {Q : Ot → Hw → Prop} {st : List Value} {w : Hw} {k n : Nat} {l0 l1 : Option Value} : WP (MX1_numberText g) Q (Prod.mk 12 (Prod.mk (List.cons l0 (List.cons l1 (List.cons (Option.some Value.null) List.nil))) (Prod.mk st (Prod.mk w (Prod.mk k n))))) = WP (MX1_numberText g) Q (Prod.mk 13 (Prod.mk (List.cons l0 (List.cons l1 (List.cons (Option.some Value.null) List.nil))) (Prod.mk (List.cons Value.null st) (Prod.mk w (Prod.mk k n))))) := alnN_e rfl (oy_44 qx_cX1_numberText_0 12 rfl) rfl
theorem eX1_numberText_13 {g : RO} {Q : Ot → Hw → Prop} {st : List Value} {w : Hw} {k n p : Nat} {l1 l2 : Option Value} : WP (MX1_numberText g) Q (Prod.mk 13 (Prod.mk (List.cons (Option.some (Value.ref p)) (List.cons l1 (List.cons l2 List.nil))) (Prod.mk st (Prod.mk w (Prod.mk k n))))) = WP (MX1_numberText g) Q (Prod.mk 14 (Prod.mk (List.cons (Option.some (Value.ref p)) (List.cons l1 (List.cons l2 List.nil))) (Prod.mk (List.cons (Value.ref p) st) (Prod.mk w (Prod.mk k n))))) := alnR_e rfl (oy_42 qx_cX1_numberText_0 13 rfl) rfl
theorem eX1_numberText_13N {g : RO} {Q : Ot → Hw → Prop} {st : List Value} {w : Hw} {k n : Nat} {l1 l2 : Option Value} : WP (MX1_numberText g) Q (Prod.mk 13 (Prod.mk (List.cons (Option.some Value.null) (List.cons l1 (List.cons l2 List.nil))) (Prod.mk st (Prod.mk w (Prod.mk k n))))) = WP (MX1_numberText g) Q (Prod.mk 14 (Prod.mk (List.cons (Option.some Value.null) (List.cons l1 (List.cons l2 List.nil))) (Prod.mk (List.cons Value.null st) (Prod.mk w (Prod.mk k n))))) := alnN_e rfl (oy_42 qx_cX1_numberText_0 13 rfl) rfl
theorem eX1_numberText_14 {g : RO} {Q : Ot → Hw → Prop} {st : List Value} {w : Hw} {k n p : Nat} {l0 l1 l2 : Option Value} : WP (MX1_numberText g) Q (Prod.mk 14 (Prod.mk (List.cons l0 (List.cons l1 (List.cons l2 List.nil))) (Prod.mk (List.cons (Value.ref p) st) (Prod.mk w (Prod.mk k n))))) = go (rd g w p) 5 fun fs => ∃ v, fs[0]? = some v ∧ WP (MX1_numberText g) Q (Prod.mk 17 (Prod.mk (List.cons l0 (List.cons l1 (List.cons l2 List.nil))) (Prod.mk (List.cons v st) (Prod.mk w (Prod.mk k n))))) := get_e rfl (oy_180 qx_cX1_numberText_0 14 0 9 rfl rfl rfl rfl) rfl
theorem eX1_numberText_17 {g : RO} {Q : Ot → Hw → Prop} {w : Hw} {a : Int32} {st : List Value} {k n p : Nat} {l0 l2 : Option Value} : WP (MX1_numberText g) Q (Prod.mk 17 (Prod.mk (List.cons l0 (List.cons (Option.some (Value.int a)) (List.cons l2 List.nil))) (Prod.mk (List.cons (Value.ref p) st) (Prod.mk w (Prod.mk k n))))) = gl (rd g w p) 0 fun N f => vp_in a N ∧ WP (MX1_numberText g) Q (Prod.mk 19 (Prod.mk (List.cons l0 (List.cons (Option.some (Value.int a)) (List.cons l2 List.nil))) (Prod.mk (List.cons (Value.long (f a.toNatClampNeg)) st) (Prod.mk w (Prod.mk k n))))) := Eq.trans (iln_e rfl (oy_27 qx_cX1_numberText_0 17 rfl) rfl) (laload_e rfl (oy_47 qx_cX1_numberText_0 18 rfl))
theorem eX1_numberText_19R {g : RO} {Q : Ot → Hw → Prop} {st : List Value} {w : Hw} {k n : Nat} {l0 l1 l2 : Option Value} {z0 : Nat} {z1 : Int64} : WP (MX1_numberText g) Q (Prod.mk 19 (Prod.mk (List.cons l0 (List.cons l1 (List.cons l2 List.nil))) (Prod.mk (List.cons (Value.long z1) (List.cons (Value.ref z0) st)) (Prod.mk w (Prod.mk k n))))) = (wt st ≤ 8 ∧ k + 3 ≤ 8 ∧ n + 246 ≤ 366 ∧ WP (MX1_appendBackwards g) (kx (fun v w' => WP (MX1_numberText g) Q (Prod.mk 22 (Prod.mk (List.cons l0 (List.cons l1 (List.cons l2 List.nil))) (Prod.mk (v.toList ++ st) (Prod.mk w' (Prod.mk (k + 3) (n + 246))))))) (fun E w' => Q (.inr E) w')) (Prod.mk 0 (Prod.mk (List.cons (Option.some (Value.ref z0)) (List.cons (Option.some (Value.long z1)) (List.cons none (List.cons none (List.cons none (List.cons none List.nil)))))) (Prod.mk List.nil (Prod.mk w (Prod.mk 0 0)))))) := csS0 (M := (MX1_numberText g)) (mc := (fun _ _ => 3)) (ms := (fun _ _ => 246)) (As := [.ref z0, .long z1]) (rest := st) (MX1_appendBackwards g) rfl rfl rfl (oy_184 qx_cX1_numberText_0 19 0 67 rfl rfl rfl rfl) rfl rfl rfl rfl rfl rfl rfl
theorem eX1_numberText_19N {g : RO} {Q : Ot → Hw → Prop} {st : List Value} {w : Hw} {k n : Nat} {l0 l1 l2 : Option Value} {z1 : Int64} : WP (MX1_numberText g) Q (Prod.mk 19 (Prod.mk (List.cons l0 (List.cons l1 (List.cons l2 List.nil))) (Prod.mk (List.cons (Value.long z1) (List.cons Value.null st)) (Prod.mk w (Prod.mk k n))))) = (wt st ≤ 8 ∧ k + 3 ≤ 8 ∧ n + 246 ≤ 366 ∧ WP (MX1_appendBackwards g) (kx (fun v w' => WP (MX1_numberText g) Q (Prod.mk 22 (Prod.mk (List.cons l0 (List.cons l1 (List.cons l2 List.nil))) (Prod.mk (v.toList ++ st) (Prod.mk w' (Prod.mk (k + 3) (n + 246))))))) (fun E w' => Q (.inr E) w')) (Prod.mk 0 (Prod.mk (List.cons (Option.some Value.null) (List.cons (Option.some (Value.long z1)) (List.cons none (List.cons none (List.cons none (List.cons none List.nil)))))) (Prod.mk List.nil (Prod.mk w (Prod.mk 0 0)))))) := csS0 (M := (MX1_numberText g)) (mc := (fun _ _ => 3)) (ms := (fun _ _ => 246)) (As := [.null, .long z1]) (rest := st) (MX1_appendBackwards g) rfl rfl rfl (oy_184 qx_cX1_numberText_0 19 0 67 rfl rfl rfl rfl) rfl rfl rfl rfl rfl rfl rfl
theorem eX1_numberText_22 {g : RO} {Q : Ot → Hw → Prop} {st : List Value} {w : Hw} {k n p : Nat} {l0 l1 : Option Value} : WP (MX1_numberText g) Q (Prod.mk 22 (Prod.mk (List.cons l0 (List.cons l1 (List.cons (Option.some (Value.ref p)) List.nil))) (Prod.mk st (Prod.mk w (Prod.mk k n))))) = WP (MX1_numberText g) Q (Prod.mk 23 (Prod.mk (List.cons l0 (List.cons l1 (List.cons (Option.some (Value.ref p)) List.nil))) (Prod.mk (List.cons (Value.ref p) st) (Prod.mk w (Prod.mk k n))))) := alnR_e rfl (oy_44 qx_cX1_numberText_0 22 rfl) rfl
theorem eX1_numberText_22N {g : RO} {Q : Ot → Hw → Prop} {st : List Value} {w : Hw} {k n : Nat} {l0 l1 : Option Value} : WP (MX1_numberText g) Q (Prod.mk 22 (Prod.mk (List.cons l0 (List.cons l1 (List.cons (Option.some Value.null) List.nil))) (Prod.mk st (Prod.mk w (Prod.mk k n))))) = WP (MX1_numberText g) Q (Prod.mk 23 (Prod.mk (List.cons l0 (List.cons l1 (List.cons (Option.some Value.null) List.nil))) (Prod.mk (List.cons Value.null st) (Prod.mk w (Prod.mk k n))))) := alnN_e rfl (oy_44 qx_cX1_numberText_0 22 rfl) rfl
theorem eX1_numberText_23 {g : RO} {Q : Ot → Hw → Prop} {st : List Value} {w : Hw} {k n p : Nat} {l0 l1 l2 : Option Value} : WP (MX1_numberText g) Q (Prod.mk 23 (Prod.mk (List.cons l0 (List.cons l1 (List.cons l2 List.nil))) (Prod.mk (List.cons (Value.ref p) st) (Prod.mk w (Prod.mk k n))))) = (go (rd g w p) 1 (fun _ => True) ∧ wt st ≤ 8 ∧ k + 0 ≤ 8 ∧ n + 0 ≤ 366 ∧ WP (MJ4_reverse_43fcb g) (kx (fun v w' => WP (MX1_numberText g) Q (Prod.mk 26 (Prod.mk (List.cons l0 (List.cons l1 (List.cons l2 List.nil))) (Prod.mk (v.toList ++ st) (Prod.mk w' (Prod.mk (k + 0) (n + 0))))))) (fun E w' => Q (.inr E) w')) (Prod.mk 0 (Prod.mk (List.cons (Option.some (Value.ref p)) List.nil) (Prod.mk List.nil (Prod.mk w (Prod.mk 0 0)))))) := csV0 (M := (MX1_numberText g)) (mc := (fun _ _ => 0)) (ms := (fun _ _ => 0)) (As := []) (rest := st) (MJ4_reverse_43fcb g) rfl rfl rfl (oy_182 qx_cX1_numberText_0 23 0 71 rfl rfl rfl rfl) rfl rfl rfl rfl rfl rfl
theorem eX1_numberText_26 {g : RO} {Q : Ot → Hw → Prop} {st : List Value} {w : Hw} {k n p : Nat} {l0 l1 l2 : Option Value} : WP (MX1_numberText g) Q (Prod.mk 26 (Prod.mk (List.cons l0 (List.cons l1 (List.cons l2 List.nil))) (Prod.mk (List.cons (Value.ref p) st) (Prod.mk w (Prod.mk k n))))) = (go (rd g w p) 1 (fun _ => True) ∧ wt st ≤ 8 ∧ k + 2 ≤ 8 ∧ n + 94 ≤ 366 ∧ WP (MJ4_toString_0e30d g) (kx (fun v w' => WP (MX1_numberText g) Q (Prod.mk 29 (Prod.mk (List.cons l0 (List.cons l1 (List.cons l2 List.nil))) (Prod.mk (v.toList ++ st) (Prod.mk w' (Prod.mk (k + 2) (n + 94))))))) (fun E w' => Q (.inr E) w')) (Prod.mk 0 (Prod.mk (List.cons (Option.some (Value.ref p)) List.nil) (Prod.mk List.nil (Prod.mk w (Prod.mk 0 0)))))) := csV0 (M := (MX1_numberText g)) (mc := (fun _ _ => 2)) (ms := (fun _ _ => 94)) (As := []) (rest := st) (MJ4_toString_0e30d g) rfl rfl rfl (oy_182 qx_cX1_numberText_0 26 0 75 rfl rfl rfl rfl) rfl rfl rfl rfl rfl rfl
theorem eX1_numberText_29 {g : RO} {Q : Ot → Hw → Prop} {w : Hw} {k n p : Nat} {l0 l1 l2 : Option Value} : WP (MX1_numberText g) Q (Prod.mk 29 (Prod.mk (List.cons l0 (List.cons l1 (List.cons l2 List.nil))) (Prod.mk (List.cons (Value.ref p) List.nil) (Prod.mk w (Prod.mk k n))))) = (k ≤ 8 ∧ n ≤ 366 ∧ Q (.inl (Option.some (Value.ref p))) w) := aretR_e rfl (oy_176 qx_cX1_numberText_0 29 rfl) rfl
theorem eX1_numberText_29N {g : RO} {Q : Ot → Hw → Prop} {w : Hw} {k n : Nat} {l0 l1 l2 : Option Value} : WP (MX1_numberText g) Q (Prod.mk 29 (Prod.mk (List.cons l0 (List.cons l1 (List.cons l2 List.nil))) (Prod.mk (List.cons Value.null List.nil) (Prod.mk w (Prod.mk k n))))) = (k ≤ 8 ∧ n ≤ 366 ∧ Q (.inl (Option.some Value.null)) w) := aretN_e rfl (oy_176 qx_cX1_numberText_0 29 rfl) rfl
theorem wk_499 : (.classLink RX1 64 RJ4 : Jvm.Cond) ∈ WS := WS_t2 201 (by eq_refl) (by eq_refl)
theorem vN_RX1_64 : vNew RX1 64 1 [.null, .int 0, .int 0, .int 0] := ⟨RJ4, TJ4, tyJ4, rfl, iW_1, tyJ4_ok, wk_499, wk_500, wk_75, fun j hj => by match j, hj with | 0, _ => rfl | 1, _ => rfl | 2, _ => rfl | 3, _ => rfl | j + 4, hj => exact absurd hj (Nat.not_lt.mpr (Nat.le_add_left _ _))⟩
theorem wk_501 : (.methodLink RX1 66 yJ4_init_da8c8 : Jvm.Cond) ∈ WS := WS_t2 203 (by eq_refl) (by eq_refl)
theorem wk_532 : (.code yX1_appendBackwards cX1_appendBackwards 6 (none) : Jvm.Cond) ∈ WS := WS_t2 234 (by eq_refl) (by eq_refl)
theorem wk_530 : (.methodLink RX1 67 yX1_appendBackwards : Jvm.Cond) ∈ WS := WS_t2 232 (by eq_refl) (by eq_refl)
theorem wk_531 : (.static yX1_appendBackwards : Jvm.Cond) ∈ WS := WS_t2 233 (by eq_refl) (by eq_refl)
theorem wk_669 : (.code yJ4_reverse_43fcb cJ4_reverse_43fcb 1 (some (.object "java/lang/StringBuilder")) : Jvm.Cond) ∈ WS := WS_t3 131 (by eq_refl) (by eq_refl)
theorem wk_666 : (.methodLink RX1 71 yJ4_reverse_43fcb : Jvm.Cond) ∈ WS := WS_t3 128 (by eq_refl) (by eq_refl)
theorem wk_667 : (.instanceMethod yJ4_reverse_43fcb : Jvm.Cond) ∈ WS := WS_t3 129 (by eq_refl) (by eq_refl)
theorem wk_668 : (.selects RJ4 yJ4_reverse_43fcb yJ4_reverse_43fcb : Jvm.Cond) ∈ WS := WS_t3 130 (by eq_refl) (by eq_refl)
theorem wk_700 : (.methodLink RX1 75 yJ4_toString_0e30d : Jvm.Cond) ∈ WS := WS_t3 162 (by eq_refl) (by eq_refl)
theorem pd80 : (parseMethodDescriptor "(Ljava/lang/StringBuilder;J)V").map (fun d => d.parameters.length) = some 2 := by decide +kernel
theorem kc_137 {l : Launch} (hl : l.stackTraces = false) {G : GT} {own : String} {i : Nat} (hw : Jvm.Cond.methodLink own i yX1_appendBackwards ∈ WS) : vCal l G own i (0, 2, 0, 6, (fun _ _ => 3), (fun _ _ => 246), yX1_appendBackwards, spOf (MX1_appendBackwards (gg G))) := ⟨cX1_appendBackwards, 6, none, fun y hy => by subst hy; exact ⟨Nat.le_of_ble_eq_true rfl, ⟨_, wk_532, okX1_appendBackwards hl, Or.inl ⟨Nat.ne_of_beq_eq_false rfl, rfl⟩⟩, wk_59, nc14, ⟨pd80, hw, wk_531⟩⟩⟩
theorem pd81 : (parseMethodDescriptor "()Ljava/lang/StringBuilder;").map (fun d => d.parameters.length + 1) = some 1 := by decide +kernel
theorem kc_138 {l : Launch} (hl : l.stackTraces = false) {G : GT} {own : String} {i : Nat} (hw : Jvm.Cond.methodLink own i yJ4_reverse_43fcb ∈ WS) : vCal l G own i (2, 1, 1, 3, (fun _ _ => 0), (fun _ _ => 0), yJ4_reverse_43fcb, spOf (MJ4_reverse_43fcb (gg G))) := ⟨cJ4_reverse_43fcb, 1, some (.object "java/lang/StringBuilder"), fun y hy => by subst hy; exact ⟨Nat.le_of_ble_eq_true rfl, ⟨_, wk_669, okJ4_reverse_43fcb hl, Or.inl ⟨Nat.ne_of_beq_eq_false rfl, rfl⟩⟩, wk_75, nc12, ⟨pd81, hw, wk_667, wk_668, (RJ4, TJ4, 4), rfl, rfl⟩⟩⟩
theorem vMX1_numberText {l : Launch} (hl : l.stackTraces = false) (G : GT) : vM l G (MX1_numberText (gg G)) := vM_k RX1 cX1_numberText rfl rfl (all_c (vF_RX1_9) (all_n)) (all_c (vN_RX1_64) (all_n)) all_n all_n all_n (fun h => absurd rfl h) (all_c (kc_116 hl wk_353) (all_c (kc_43 hl wk_501) (all_c (kc_137 hl wk_530) (all_c (kc_138 hl wk_666) (all_c (kc_46 hl wk_700) (all_n)))))) all_n all_n (fun h => absurd rfl h) rfl all_n
theorem okX1_numberText {l : Launch} (hl : l.stackTraces = false) {G : GT} : ∀ (args : List Value) (w : Hw) (S : Ot → Hw → Prop), spOf (MX1_numberText (gg G)) args w S → CX l G yX1_numberText (.code yX1_numberText cX1_numberText 3 (some (.object "java/lang/String"))) 7 8 366 args w S := CX_sp (M := MX1_numberText (gg G)) (y := yX1_numberText) hl pn16 rfl (vMX1_numberText hl G) (fun h => by cases h) rfl
theorem qx_cX1_cardText_0 : ((cX1_cardText.data.toList.drop 0).take 38).map UInt8.toNat = [27, 184, 0, 79, 42, 180, 0, 15, 27, 50, 77, 44, 199, 0, 6, 18, 144, 176, 187, 0, 64, 89, 183, 0, 66, 78, 6, 54, 4, 21, 4, 155, 0, 31, 45, 44, 21, 4] := by decide +kernel
theorem qx_cX1_cardText_1 : ((cX1_cardText.data.toList.drop 32).take 38).map UInt8.toNat = [0, 31, 45, 44, 21, 4, 182, 0, 141, 184, 0, 67, 21, 4, 158, 0, 10, 45, 16, 32, 182, 0, 146, 87, 132, 4, 255, 167, 255, 226, 45, 182, 0, 71, 182, 0, 75, 176] := by decide +kernel
theorem qx_cX1_cardText_2 : ((cX1_cardText.data.toList.drop 64).take 38).map UInt8.toNat = [0, 71, 182, 0, 75, 176] := by decide +kernel
noncomputable def MX1_cardText (g : RO) : MT := ((RX1, cX1_cardText, 5, 7, 19, 1530, false, some (.object "java/lang/String")), [(15, 5, 1)], [(64, 1, [.null, .int 0, .int 0, .int 0])], [], [], [], 0, [(79, 0, 1, 0, 6, (fun _ _ => 1), (fun _ _ => 6), yX1_needCard, spOf (MX1_needCard g)), (66, 4, 1, 1, 2, (fun _ _ => 1), (fun _ _ => 16), yJ4_init_da8c8, spOf (MJ4_init_da8c8 g)), (141, 3, 2, 4, 1, (fun _ _ => 0), (fun _ _ => 0), yX0_endAt, spOf (MX0_endAt g)), (67, 0, 2, 0, 6, (fun _ _ => 3), (fun _ _ => 246), yX1_appendBackwards, spOf (MX1_appendBackwards g)), (146, 2, 2, 1, 5, kfI, sfI, yJ4_append_cf468, spF (MJ4_append_cf468 g) kfI sfI), (71, 2, 1, 1, 3, (fun _ _ => 0), (fun _ _ => 0), yJ4_reverse_43fcb, spOf (MJ4_reverse_43fcb g)), (75, 2, 1, 1, 6, (fun _ _ => 2), (fun _ _ => 94), yJ4_toString_0e30d, spOf (MJ4_toString_0e30d g))], [(144, 20)], [], 0, [], [], g)
theorem eX1_cardText_0 {g : RO} {Q : Ot → Hw → Prop} {w : Hw} {z0 : Int32} {st : List Value} {k n : Nat} {l0 l2 l3 l4 : Option Value} : WP (MX1_cardText g) Q (Prod.mk 0 (Prod.mk (List.cons l0 (List.cons (Option.some (Value.int z0)) (List.cons l2 (List.cons l3 (List.cons l4 List.nil))))) (Prod.mk st (Prod.mk w (Prod.mk k n))))) = (wt st ≤ 8 ∧ k + 1 ≤ 19 ∧ n + 6 ≤ 1530 ∧ WP (MX1_needCard g) (kx (fun v w' => WP (MX1_cardText g) Q (Prod.mk 4 (Prod.mk (List.cons l0 (List.cons (Option.some (Value.int z0)) (List.cons l2 (List.cons l3 (List.cons l4 List.nil))))) (Prod.mk (v.toList ++ st) (Prod.mk w' (Prod.mk (k + 1) (n + 6))))))) (fun E w' => Q (.inr E) w')) (Prod.mk 0 (Prod.mk (List.cons (Option.some (Value.int z0)) List.nil) (Prod.mk List.nil (Prod.mk w (Prod.mk 0 0)))))) := Eq.trans (iln_e rfl (oy_27 qx_cX1_cardText_0 0 rfl) rfl) (csS (M := (MX1_cardText g)) (mc := (fun _ _ => 1)) (ms := (fun _ _ => 6)) (As := [.int z0]) (rest := st) (MX1_needCard g) rfl rfl (oy_184 qx_cX1_cardText_0 1 0 79 rfl rfl rfl rfl) (Nat.ne_of_beq_eq_false rfl) (by exact fun h => nomatch (show (none : Option Nat) = some 12 from h)) (by exact fun h => nomatch (show (none : Option Nat) = some 13 from h)) (by exact fun h => nomatch (show (none : Option Nat) = some 14 from h)) rfl rfl (by decide) (Nat.le_of_ble_eq_true rfl) (Nat.le_of_ble_eq_true rfl) rfl)
theorem eX1_cardText_4 {g : RO} {Q : Ot → Hw → Prop} {st : List Value} {w : Hw} {k n p : Nat} {l1 l2 l3 l4 : Option Value} : WP (MX1_cardText g) Q (Prod.mk 4 (Prod.mk (List.cons (Option.some (Value.ref p)) (List.cons l1 (List.cons l2 (List.cons l3 (List.cons l4 List.nil))))) (Prod.mk st (Prod.mk w (Prod.mk k n))))) = WP (MX1_cardText g) Q (Prod.mk 5 (Prod.mk (List.cons (Option.some (Value.ref p)) (List.cons l1 (List.cons l2 (List.cons l3 (List.cons l4 List.nil))))) (Prod.mk (List.cons (Value.ref p) st) (Prod.mk w (Prod.mk k n))))) := alnR_e rfl (oy_42 qx_cX1_cardText_0 4 rfl) rfl
theorem eX1_cardText_4N {g : RO} {Q : Ot → Hw → Prop} {st : List Value} {w : Hw} {k n : Nat} {l1 l2 l3 l4 : Option Value} : WP (MX1_cardText g) Q (Prod.mk 4 (Prod.mk (List.cons (Option.some Value.null) (List.cons l1 (List.cons l2 (List.cons l3 (List.cons l4 List.nil))))) (Prod.mk st (Prod.mk w (Prod.mk k n))))) = WP (MX1_cardText g) Q (Prod.mk 5 (Prod.mk (List.cons (Option.some Value.null) (List.cons l1 (List.cons l2 (List.cons l3 (List.cons l4 List.nil))))) (Prod.mk (List.cons Value.null st) (Prod.mk w (Prod.mk k n))))) := alnN_e rfl (oy_42 qx_cX1_cardText_0 4 rfl) rfl
theorem eX1_cardText_5 {g : RO} {Q : Ot → Hw → Prop} {st : List Value} {w : Hw} {k n p : Nat} {l0 l1 l2 l3 l4 : Option Value} : WP (MX1_cardText g) Q (Prod.mk 5 (Prod.mk (List.cons l0 (List.cons l1 (List.cons l2 (List.cons l3 (List.cons l4 List.nil))))) (Prod.mk (List.cons (Value.ref p) st) (Prod.mk w (Prod.mk k n))))) = go (rd g w p) 5 fun fs => ∃ v, fs[1]? = some v ∧ WP (MX1_cardText g) Q (Prod.mk 8 (Prod.mk (List.cons l0 (List.cons l1 (List.cons l2 (List.cons l3 (List.cons l4 List.nil))))) (Prod.mk (List.cons v st) (Prod.mk w (Prod.mk k n))))) := get_e rfl (oy_180 qx_cX1_cardText_0 5 0 15 rfl rfl rfl rfl) rfl
theorem eX1_cardText_8 {g : RO} {Q : Ot → Hw → Prop} {w : Hw} {a : Int32} {st : List Value} {k n p : Nat} {l0 l2 l3 l4 : Option Value} : WP (MX1_cardText g) Q (Prod.mk 8 (Prod.mk (List.cons l0 (List.cons (Option.some (Value.int a)) (List.cons l2 (List.cons l3 (List.cons l4 List.nil))))) (Prod.mk (List.cons (Value.ref p) st) (Prod.mk w (Prod.mk k n))))) = gq (rd g w p) fun t N f => (t = 4 ∨ t = 5) ∧ vp_in a N ∧ WP (MX1_cardText g) Q (Prod.mk 10 (Prod.mk (List.cons l0 (List.cons (Option.some (Value.int a)) (List.cons l2 (List.cons l3 (List.cons l4 List.nil))))) (Prod.mk (List.cons (va_rf (f a.toNatClampNeg)) st) (Prod.mk w (Prod.mk k n))))) := Eq.trans (iln_e rfl (oy_27 qx_cX1_cardText_0 8 rfl) rfl) (aaload_e rfl (oy_50 qx_cX1_cardText_0 9 rfl))
theorem eX1_cardText_10 {g : RO} {Q : Ot → Hw → Prop} {st : List Value} {w : Hw} {k n p : Nat} {l0 l1 l2 l3 l4 : Option Value} : WP (MX1_cardText g) Q (Prod.mk 10 (Prod.mk (List.cons l0 (List.cons l1 (List.cons l2 (List.cons l3 (List.cons l4 List.nil))))) (Prod.mk (List.cons (Value.ref p) st) (Prod.mk w (Prod.mk k n))))) = WP (MX1_cardText g) Q (Prod.mk 11 (Prod.mk (List.cons l0 (List.cons (nl l1) (List.cons (Option.some (Value.ref p)) (List.cons l3 (List.cons l4 List.nil))))) (Prod.mk st (Prod.mk w (Prod.mk k n))))) := asnR_e rfl (oy_77 qx_cX1_cardText_0 10 rfl) rfl rfl
theorem eX1_cardText_10N {g : RO} {Q : Ot → Hw → Prop} {st : List Value} {w : Hw} {k n : Nat} {l0 l1 l2 l3 l4 : Option Value} : WP (MX1_cardText g) Q (Prod.mk 10 (Prod.mk (List.cons l0 (List.cons l1 (List.cons l2 (List.cons l3 (List.cons l4 List.nil))))) (Prod.mk (List.cons Value.null st) (Prod.mk w (Prod.mk k n))))) = WP (MX1_cardText g) Q (Prod.mk 11 (Prod.mk (List.cons l0 (List.cons (nl l1) (List.cons (Option.some (Value.null)) (List.cons l3 (List.cons l4 List.nil))))) (Prod.mk st (Prod.mk w (Prod.mk k n))))) := asnN_e rfl (oy_77 qx_cX1_cardText_0 10 rfl) rfl rfl
theorem eX1_cardText_11 {g : RO} {Q : Ot → Hw → Prop} {st : List Value} {w : Hw} {k n p : Nat} {l0 l1 l3 l4 : Option Value} : WP (MX1_cardText g) Q (Prod.mk 11 (Prod.mk (List.cons l0 (List.cons l1 (List.cons (Option.some (Value.ref p)) (List.cons l3 (List.cons l4 List.nil))))) (Prod.mk st (Prod.mk w (Prod.mk k n))))) = WP (MX1_cardText g) Q (Prod.mk 12 (Prod.mk (List.cons l0 (List.cons l1 (List.cons (Option.some (Value.ref p)) (List.cons l3 (List.cons l4 List.nil))))) (Prod.mk (List.cons (Value.ref p) st) (Prod.mk w (Prod.mk k n))))) := alnR_e rfl (oy_44 qx_cX1_cardText_0 11 rfl) rfl
theorem eX1_cardText_11N {g : RO} {Q : Ot → Hw → Prop} {st : List Value} {w : Hw} {k n : Nat} {l0 l1 l3 l4 : Option Value} : WP (MX1_cardText g) Q (Prod.mk 11 (Prod.mk (List.cons l0 (List.cons l1 (List.cons (Option.some Value.null) (List.cons l3 (List.cons l4 List.nil))))) (Prod.mk st (Prod.mk w (Prod.mk k n))))) = WP (MX1_cardText g) Q (Prod.mk 12 (Prod.mk (List.cons l0 (List.cons l1 (List.cons (Option.some Value.null) (List.cons l3 (List.cons l4 List.nil))))) (Prod.mk (List.cons Value.null st) (Prod.mk w (Prod.mk k n))))) := alnN_e rfl (oy_44 qx_cX1_cardText_0 11 rfl) rfl
theorem eX1_cardText_12R {g : RO} {Q : Ot → Hw → Prop} {st : List Value} {w : Hw} {k n p : Nat} {l0 l1 l2 l3 l4 : Option Value} : WP (MX1_cardText g) Q (Prod.mk 12 (Prod.mk (List.cons l0 (List.cons l1 (List.cons l2 (List.cons l3 (List.cons l4 List.nil))))) (Prod.mk (List.cons (Value.ref p) st) (Prod.mk w (Prod.mk k n))))) = WP (MX1_cardText g) Q (Prod.mk 18 (Prod.mk (List.cons l0 (List.cons l1 (List.cons l2 (List.cons l3 (List.cons l4 List.nil))))) (Prod.mk st (Prod.mk w (Prod.mk k n))))) := ifnonnullR_e rfl (oy_199 qx_cX1_cardText_0 12 0 6 rfl rfl rfl rfl) (tgt := 18) (by decide)
theorem eX1_cardText_12N {g : RO} {Q : Ot → Hw → Prop} {st : List Value} {w : Hw} {k n : Nat} {l0 l1 l2 l3 l4 : Option Value} : WP (MX1_cardText g) Q (Prod.mk 12 (Prod.mk (List.cons l0 (List.cons l1 (List.cons l2 (List.cons l3 (List.cons l4 List.nil))))) (Prod.mk (List.cons Value.null st) (Prod.mk w (Prod.mk k n))))) = WP (MX1_cardText g) Q (Prod.mk 15 (Prod.mk (List.cons l0 (List.cons l1 (List.cons l2 (List.cons l3 (List.cons l4 List.nil))))) (Prod.mk st (Prod.mk w (Prod.mk k n))))) := ifnonnullN_e rfl (oy_199 qx_cX1_cardText_0 12 0 6 rfl rfl rfl rfl) (tgt := 18) (by decide)
theorem eX1_cardText_15 {g : RO} {Q : Ot → Hw → Prop} {st : List Value} {w : Hw} {k n : Nat} {l0 l1 l2 l3 l4 : Option Value} : WP (MX1_cardText g) Q (Prod.mk 15 (Prod.mk (List.cons l0 (List.cons l1 (List.cons l2 (List.cons l3 (List.cons l4 List.nil))))) (Prod.mk st (Prod.mk w (Prod.mk k n))))) = WP (MX1_cardText g) Q (Prod.mk 17 (Prod.mk (List.cons l0 (List.cons l1 (List.cons l2 (List.cons l3 (List.cons l4 List.nil))))) (Prod.mk (List.cons (g.1 20) st) (Prod.mk w (Prod.mk k n))))) := ldc_e rfl (oy_18 qx_cX1_cardText_0 15 144 rfl rfl) rfl (by decide) rfl
theorem eX1_cardText_17 {g : RO} {Q : Ot → Hw → Prop} {w : Hw} {k n p : Nat} {l0 l1 l2 l3 l4 : Option Value} : WP (MX1_cardText g) Q (Prod.mk 17 (Prod.mk (List.cons l0 (List.cons l1 (List.cons l2 (List.cons l3 (List.cons l4 List.nil))))) (Prod.mk (List.cons (Value.ref p) List.nil) (Prod.mk w (Prod.mk k n))))) = (k ≤ 19 ∧ n ≤ 1530 ∧ Q (.inl (Option.some (Value.ref p))) w) := aretR_e rfl (oy_176 qx_cX1_cardText_0 17 rfl) rfl
theorem eX1_cardText_17N {g : RO} {Q : Ot → Hw → Prop} {w : Hw} {k n : Nat} {l0 l1 l2 l3 l4 : Option Value} : WP (MX1_cardText g) Q (Prod.mk 17 (Prod.mk (List.cons l0 (List.cons l1 (List.cons l2 (List.cons l3 (List.cons l4 List.nil))))) (Prod.mk (List.cons Value.null List.nil) (Prod.mk w (Prod.mk k n))))) = (k ≤ 19 ∧ n ≤ 1530 ∧ Q (.inl (Option.some Value.null)) w) := aretN_e rfl (oy_176 qx_cX1_cardText_0 17 rfl) rfl
theorem eX1_cardText_18 {g : RO} {Q : Ot → Hw → Prop} {st : List Value} {w : Hw} {k n : Nat} {l0 l1 l2 l3 l4 : Option Value} : WP (MX1_cardText g) Q (Prod.mk 18 (Prod.mk (List.cons l0 (List.cons l1 (List.cons l2 (List.cons l3 (List.cons l4 List.nil))))) (Prod.mk st (Prod.mk w (Prod.mk k n))))) = (k + 1 ≤ 19 ∧ n + 4 ≤ 1530 ∧ ∀ q : Nat, rd g w q = none → WP (MX1_cardText g) Q (Prod.mk 21 (Prod.mk (List.cons l0 (List.cons l1 (List.cons l2 (List.cons l3 (List.cons l4 List.nil))))) (Prod.mk (List.cons (Value.ref q) st) (Prod.mk (upw w q (.inr (1, [Value.null, Value.int 0, Value.int 0, Value.int 0]))) (Prod.mk (k + 1) (n + 4))))))) := Eq.trans (new_e (M := (MX1_cardText g)) (fs := [.null, .int 0, .int 0, .int 0]) rfl (oy_187 qx_cX1_cardText_0 18 0 64 rfl rfl rfl rfl) rfl) rfl
theorem eX1_cardText_21 {g : RO} {Q : Ot → Hw → Prop} {st : List Value} {w : Hw} {k n : Nat} {a : Int32} {l0 l1 l2 l3 l4 : Option Value} : WP (MX1_cardText g) Q (Prod.mk 21 (Prod.mk (List.cons l0 (List.cons l1 (List.cons l2 (List.cons l3 (List.cons l4 List.nil))))) (Prod.mk (List.cons (Value.int a) st) (Prod.mk w (Prod.mk k n))))) = WP (MX1_cardText g) Q (Prod.mk 22 (Prod.mk (List.cons l0 (List.cons l1 (List.cons l2 (List.cons l3 (List.cons l4 List.nil))))) (Prod.mk (List.cons (Value.int a) (List.cons (Value.int a) st)) (Prod.mk w (Prod.mk k n))))) := dupI_e rfl (oy_89 qx_cX1_cardText_0 21 rfl)
theorem eX1_cardText_21R {g : RO} {Q : Ot → Hw → Prop} {st : List Value} {w : Hw} {k n p : Nat} {l0 l1 l2 l3 l4 : Option Value} : WP (MX1_cardText g) Q (Prod.mk 21 (Prod.mk (List.cons l0 (List.cons l1 (List.cons l2 (List.cons l3 (List.cons l4 List.nil))))) (Prod.mk (List.cons (Value.ref p) st) (Prod.mk w (Prod.mk k n))))) = WP (MX1_cardText g) Q (Prod.mk 22 (Prod.mk (List.cons l0 (List.cons l1 (List.cons l2 (List.cons l3 (List.cons l4 List.nil))))) (Prod.mk (List.cons (Value.ref p) (List.cons (Value.ref p) st)) (Prod.mk w (Prod.mk k n))))) := dupR_e rfl (oy_89 qx_cX1_cardText_0 21 rfl)
theorem eX1_cardText_22 {g : RO} {Q : Ot → Hw → Prop} {st : List Value} {w : Hw} {k n p : Nat} {l0 l1 l2 l3 l4 : Option Value} : WP (MX1_cardText g) Q (Prod.mk 22 (Prod.mk (List.cons l0 (List.cons l1 (List.cons l2 (List.cons l3 (List.cons l4 List.nil))))) (Prod.mk (List.cons (Value.ref p) st) (Prod.mk w (Prod.mk k n))))) = (wt st ≤ 8 ∧ k + 1 ≤ 19 ∧ n + 16 ≤ 1530 ∧ WP (MJ4_init_da8c8 g) (kx (fun v w' => WP (MX1_cardText g) Q (Prod.mk 25 (Prod.mk (List.cons l0 (List.cons l1 (List.cons l2 (List.cons l3 (List.cons l4 List.nil))))) (Prod.mk (v.toList ++ st) (Prod.mk w' (Prod.mk (k + 1) (n + 16))))))) (fun E w' => Q (.inr E) w')) (Prod.mk 0 (Prod.mk (List.cons (Option.some (Value.ref p)) List.nil) (Prod.mk List.nil (Prod.mk w (Prod.mk 0 0)))))) := csI (M := (MX1_cardText g)) (mc := (fun _ _ => 1)) (ms := (fun _ _ => 16)) (As := []) (rest := st) (MJ4_init_da8c8 g) rfl rfl (oy_183 qx_cX1_cardText_0 22 0 66 rfl rfl rfl rfl) (Nat.ne_of_beq_eq_false rfl) rfl rfl (Nat.le_of_ble_eq_true rfl) (Nat.le_of_ble_eq_true rfl) rfl
theorem eX1_cardText_25 {g : RO} {Q : Ot → Hw → Prop} {st : List Value} {w : Hw} {k n p : Nat} {l0 l1 l2 l3 l4 : Option Value} : WP (MX1_cardText g) Q (Prod.mk 25 (Prod.mk (List.cons l0 (List.cons l1 (List.cons l2 (List.cons l3 (List.cons l4 List.nil))))) (Prod.mk (List.cons (Value.ref p) st) (Prod.mk w (Prod.mk k n))))) = WP (MX1_cardText g) Q (Prod.mk 26 (Prod.mk (List.cons l0 (List.cons l1 (List.cons (nl l2) (List.cons (Option.some (Value.ref p)) (List.cons l4 List.nil))))) (Prod.mk st (Prod.mk w (Prod.mk k n))))) := asnR_e rfl (oy_78 qx_cX1_cardText_0 25 rfl) rfl rfl
theorem eX1_cardText_25N {g : RO} {Q : Ot → Hw → Prop} {st : List Value} {w : Hw} {k n : Nat} {l0 l1 l2 l3 l4 : Option Value} : WP (MX1_cardText g) Q (Prod.mk 25 (Prod.mk (List.cons l0 (List.cons l1 (List.cons l2 (List.cons l3 (List.cons l4 List.nil))))) (Prod.mk (List.cons Value.null st) (Prod.mk w (Prod.mk k n))))) = WP (MX1_cardText g) Q (Prod.mk 26 (Prod.mk (List.cons l0 (List.cons l1 (List.cons (nl l2) (List.cons (Option.some (Value.null)) (List.cons l4 List.nil))))) (Prod.mk st (Prod.mk w (Prod.mk k n))))) := asnN_e rfl (oy_78 qx_cX1_cardText_0 25 rfl) rfl rfl
theorem eX1_cardText_26 {g : RO} {Q : Ot → Hw → Prop} {w : Hw} {st : List Value} {k n : Nat} {l0 l1 l2 l3 l4 : Option Value} : WP (MX1_cardText g) Q (Prod.mk 26 (Prod.mk (List.cons l0 (List.cons l1 (List.cons l2 (List.cons l3 (List.cons l4 List.nil))))) (Prod.mk st (Prod.mk w (Prod.mk k n))))) = WP (MX1_cardText g) Q (Prod.mk 29 (Prod.mk (List.cons l0 (List.cons l1 (List.cons l2 (List.cons (nl l3) (List.cons (Option.some (Value.int (3 : Int32))) List.nil))))) (Prod.mk st (Prod.mk w (Prod.mk k n))))) := Eq.trans (ic_3 rfl (oy_6 qx_cX1_cardText_0 26 rfl)) (is_e rfl (oy_54 qx_cX1_cardText_0 27 4 rfl rfl) rfl rfl)
theorem eX1_cardText_29 {g : RO} {Q : Ot → Hw → Prop} {st : List Value} {w : Hw} {k n : Nat} {a : Int32} {l0 l1 l2 l3 : Option Value} : WP (MX1_cardText g) Q (Prod.mk 29 (Prod.mk (List.cons l0 (List.cons l1 (List.cons l2 (List.cons l3 (List.cons (Option.some (Value.int a)) List.nil))))) (Prod.mk st (Prod.mk w (Prod.mk k n))))) = WP (MX1_cardText g) Q (Prod.mk 31 (Prod.mk (List.cons l0 (List.cons l1 (List.cons l2 (List.cons l3 (List.cons (Option.some (Value.int a)) List.nil))))) (Prod.mk (List.cons (Value.int a) st) (Prod.mk w (Prod.mk k n))))) := il_e rfl (oy_21 qx_cX1_cardText_0 29 4 rfl rfl) rfl
theorem eX1_cardText_31 {g : RO} {Q : Ot → Hw → Prop} {st : List Value} {w : Hw} {k n : Nat} {a : Int32} {l0 l1 l2 l3 l4 : Option Value} : WP (MX1_cardText g) Q (Prod.mk 31 (Prod.mk (List.cons l0 (List.cons l1 (List.cons l2 (List.cons l3 (List.cons l4 List.nil))))) (Prod.mk (List.cons (Value.int a) st) (Prod.mk w (Prod.mk k n))))) = if a < 0 then WP (MX1_cardText g) Q (Prod.mk 62 (Prod.mk (List.cons l0 (List.cons l1 (List.cons l2 (List.cons l3 (List.cons l4 List.nil))))) (Prod.mk st (Prod.mk w (Prod.mk k n))))) else WP (MX1_cardText g) Q (Prod.mk 34 (Prod.mk (List.cons l0 (List.cons l1 (List.cons l2 (List.cons l3 (List.cons l4 List.nil))))) (Prod.mk st (Prod.mk w (Prod.mk k n))))) := ifc_e (a < 0) rfl (oy_155 qx_cX1_cardText_0 31 0 31 rfl rfl rfl rfl) rfl (by decide)
theorem eX1_cardText_34 {g : RO} {Q : Ot → Hw → Prop} {st : List Value} {w : Hw} {k n p : Nat} {l0 l1 l2 l4 : Option Value} : WP (MX1_cardText g) Q (Prod.mk 34 (Prod.mk (List.cons l0 (List.cons l1 (List.cons l2 (List.cons (Option.some (Value.ref p)) (List.cons l4 List.nil))))) (Prod.mk st (Prod.mk w (Prod.mk k n))))) = WP (MX1_cardText g) Q (Prod.mk 35 (Prod.mk (List.cons l0 (List.cons l1 (List.cons l2 (List.cons (Option.some (Value.ref p)) (List.cons l4 List.nil))))) (Prod.mk (List.cons (Value.ref p) st) (Prod.mk w (Prod.mk k n))))) := alnR_e rfl (oy_45 qx_cX1_cardText_1 2 rfl) rfl
theorem eX1_cardText_34N {g : RO} {Q : Ot → Hw → Prop} {st : List Value} {w : Hw} {k n : Nat} {l0 l1 l2 l4 : Option Value} : WP (MX1_cardText g) Q (Prod.mk 34 (Prod.mk (List.cons l0 (List.cons l1 (List.cons l2 (List.cons (Option.some Value.null) (List.cons l4 List.nil))))) (Prod.mk st (Prod.mk w (Prod.mk k n))))) = WP (MX1_cardText g) Q (Prod.mk 35 (Prod.mk (List.cons l0 (List.cons l1 (List.cons l2 (List.cons (Option.some Value.null) (List.cons l4 List.nil))))) (Prod.mk (List.cons Value.null st) (Prod.mk w (Prod.mk k n))))) := alnN_e rfl (oy_45 qx_cX1_cardText_1 2 rfl) rfl
theorem eX1_cardText_35 {g : RO} {Q : Ot → Hw → Prop} {st : List Value} {w : Hw} {k n p : Nat} {l0 l1 l3 l4 : Option Value} : WP (MX1_cardText g) Q (Prod.mk 35 (Prod.mk (List.cons l0 (List.cons l1 (List.cons (Option.some (Value.ref p)) (List.cons l3 (List.cons l4 List.nil))))) (Prod.mk st (Prod.mk w (Prod.mk k n))))) = WP (MX1_cardText g) Q (Prod.mk 36 (Prod.mk (List.cons l0 (List.cons l1 (List.cons (Option.some (Value.ref p)) (List.cons l3 (List.cons l4 List.nil))))) (Prod.mk (List.cons (Value.ref p) st) (Prod.mk w (Prod.mk k n))))) := alnR_e rfl (oy_44 qx_cX1_cardText_1 3 rfl) rfl
theorem eX1_cardText_35N {g : RO} {Q : Ot → Hw → Prop} {st : List Value} {w : Hw} {k n : Nat} {l0 l1 l3 l4 : Option Value} : WP (MX1_cardText g) Q (Prod.mk 35 (Prod.mk (List.cons l0 (List.cons l1 (List.cons (Option.some Value.null) (List.cons l3 (List.cons l4 List.nil))))) (Prod.mk st (Prod.mk w (Prod.mk k n))))) = WP (MX1_cardText g) Q (Prod.mk 36 (Prod.mk (List.cons l0 (List.cons l1 (List.cons (Option.some Value.null) (List.cons l3 (List.cons l4 List.nil))))) (Prod.mk (List.cons Value.null st) (Prod.mk w (Prod.mk k n))))) := alnN_e rfl (oy_44 qx_cX1_cardText_1 3 rfl) rfl
theorem eX1_cardText_36 {g : RO} {Q : Ot → Hw → Prop} {w : Hw} {z0 : Int32} {st : List Value} {k n p : Nat} {l0 l1 l2 l3 : Option Value} : WP (MX1_cardText g) Q (Prod.mk 36 (Prod.mk (List.cons l0 (List.cons l1 (List.cons l2 (List.cons l3 (List.cons (Option.some (Value.int z0)) List.nil))))) (Prod.mk (List.cons (Value.ref p) st) (Prod.mk w (Prod.mk k n))))) = (go (rd g w p) 4 (fun _ => True) ∧ wt st ≤ 8 ∧ k + 0 ≤ 19 ∧ n + 0 ≤ 1530 ∧ WP (MX0_endAt g) (kx (fun v w' => WP (MX1_cardText g) Q (Prod.mk 41 (Prod.mk (List.cons l0 (List.cons l1 (List.cons l2 (List.cons l3 (List.cons (Option.some (Value.int z0)) List.nil))))) (Prod.mk (v.toList ++ st) (Prod.mk w' (Prod.mk (k + 0) (n + 0))))))) (fun E w' => Q (.inr E) w')) (Prod.mk 0 (Prod.mk (List.cons (Option.some (Value.ref p)) (List.cons (Option.some (Value.int z0)) List.nil)) (Prod.mk List.nil (Prod.mk w (Prod.mk 0 0)))))) := Eq.trans (il_e rfl (oy_21 qx_cX1_cardText_1 4 4 rfl rfl) rfl) (csV (M := (MX1_cardText g)) (mc := (fun _ _ => 0)) (ms := (fun _ _ => 0)) (As := [.int z0]) (rest := st) (MX0_endAt g) rfl rfl (oy_182 qx_cX1_cardText_1 6 0 141 rfl rfl rfl rfl) (by exact fun h => nomatch (show (none : Option Nat) = some 11 from h)) (by exact fun h => nomatch (show (none : Option Nat) = some 15 from h)) rfl rfl (by decide) (Nat.le_of_ble_eq_true rfl) (Nat.le_of_ble_eq_true rfl) rfl)
theorem eX1_cardText_41R {g : RO} {Q : Ot → Hw → Prop} {st : List Value} {w : Hw} {k n : Nat} {l0 l1 l2 l3 l4 : Option Value} {z0 : Nat} {z1 : Int64} : WP (MX1_cardText g) Q (Prod.mk 41 (Prod.mk (List.cons l0 (List.cons l1 (List.cons l2 (List.cons l3 (List.cons l4 List.nil))))) (Prod.mk (List.cons (Value.long z1) (List.cons (Value.ref z0) st)) (Prod.mk w (Prod.mk k n))))) = (wt st ≤ 8 ∧ k + 3 ≤ 19 ∧ n + 246 ≤ 1530 ∧ WP (MX1_appendBackwards g) (kx (fun v w' => WP (MX1_cardText g) Q (Prod.mk 44 (Prod.mk (List.cons l0 (List.cons l1 (List.cons l2 (List.cons l3 (List.cons l4 List.nil))))) (Prod.mk (v.toList ++ st) (Prod.mk w' (Prod.mk (k + 3) (n + 246))))))) (fun E w' => Q (.inr E) w')) (Prod.mk 0 (Prod.mk (List.cons (Option.some (Value.ref z0)) (List.cons (Option.some (Value.long z1)) (List.cons none (List.cons none (List.cons none (List.cons none List.nil)))))) (Prod.mk List.nil (Prod.mk w (Prod.mk 0 0)))))) := csS (M := (MX1_cardText g)) (mc := (fun _ _ => 3)) (ms := (fun _ _ => 246)) (As := [.ref z0, .long z1]) (rest := st) (MX1_appendBackwards g) rfl rfl (oy_184 qx_cX1_cardText_1 9 0 67 rfl rfl rfl rfl) (Nat.ne_of_beq_eq_false rfl) (by exact fun h => nomatch (show (none : Option Nat) = some 12 from h)) (by exact fun h => nomatch (show (none : Option Nat) = some 13 from h)) (by exact fun h => nomatch (show (none : Option Nat) = some 14 from h)) rfl rfl (by decide) (Nat.le_of_ble_eq_true rfl) (Nat.le_of_ble_eq_true rfl) rfl
theorem eX1_cardText_41N {g : RO} {Q : Ot → Hw → Prop} {st : List Value} {w : Hw} {k n : Nat} {l0 l1 l2 l3 l4 : Option Value} {z1 : Int64} : WP (MX1_cardText g) Q (Prod.mk 41 (Prod.mk (List.cons l0 (List.cons l1 (List.cons l2 (List.cons l3 (List.cons l4 List.nil))))) (Prod.mk (List.cons (Value.long z1) (List.cons Value.null st)) (Prod.mk w (Prod.mk k n))))) = (wt st ≤ 8 ∧ k + 3 ≤ 19 ∧ n + 246 ≤ 1530 ∧ WP (MX1_appendBackwards g) (kx (fun v w' => WP (MX1_cardText g) Q (Prod.mk 44 (Prod.mk (List.cons l0 (List.cons l1 (List.cons l2 (List.cons l3 (List.cons l4 List.nil))))) (Prod.mk (v.toList ++ st) (Prod.mk w' (Prod.mk (k + 3) (n + 246))))))) (fun E w' => Q (.inr E) w')) (Prod.mk 0 (Prod.mk (List.cons (Option.some Value.null) (List.cons (Option.some (Value.long z1)) (List.cons none (List.cons none (List.cons none (List.cons none List.nil)))))) (Prod.mk List.nil (Prod.mk w (Prod.mk 0 0)))))) := csS (M := (MX1_cardText g)) (mc := (fun _ _ => 3)) (ms := (fun _ _ => 246)) (As := [.null, .long z1]) (rest := st) (MX1_appendBackwards g) rfl rfl (oy_184 qx_cX1_cardText_1 9 0 67 rfl rfl rfl rfl) (Nat.ne_of_beq_eq_false rfl) (by exact fun h => nomatch (show (none : Option Nat) = some 12 from h)) (by exact fun h => nomatch (show (none : Option Nat) = some 13 from h)) (by exact fun h => nomatch (show (none : Option Nat) = some 14 from h)) rfl rfl (by decide) (Nat.le_of_ble_eq_true rfl) (Nat.le_of_ble_eq_true rfl) rfl
theorem eX1_cardText_44 {g : RO} {Q : Ot → Hw → Prop} {w : Hw} {a : Int32} {st : List Value} {k n : Nat} {l0 l1 l2 l3 : Option Value} : WP (MX1_cardText g) Q (Prod.mk 44 (Prod.mk (List.cons l0 (List.cons l1 (List.cons l2 (List.cons l3 (List.cons (Option.some (Value.int a)) List.nil))))) (Prod.mk st (Prod.mk w (Prod.mk k n))))) = if a ≤ 0 then WP (MX1_cardText g) Q (Prod.mk 56 (Prod.mk (List.cons l0 (List.cons l1 (List.cons l2 (List.cons l3 (List.cons (Option.some (Value.int a)) List.nil))))) (Prod.mk st (Prod.mk w (Prod.mk k n))))) else WP (MX1_cardText g) Q (Prod.mk 49 (Prod.mk (List.cons l0 (List.cons l1 (List.cons l2 (List.cons l3 (List.cons (Option.some (Value.int a)) List.nil))))) (Prod.mk st (Prod.mk w (Prod.mk k n))))) := Eq.trans (il_e rfl (oy_21 qx_cX1_cardText_1 12 4 rfl rfl) rfl) (ifc_e (a ≤ 0) rfl (oy_158 qx_cX1_cardText_1 14 0 10 rfl rfl rfl rfl) rfl (by decide))
theorem eX1_cardText_49 {g : RO} {Q : Ot → Hw → Prop} {st : List Value} {w : Hw} {k n p : Nat} {l0 l1 l2 l4 : Option Value} : WP (MX1_cardText g) Q (Prod.mk 49 (Prod.mk (List.cons l0 (List.cons l1 (List.cons l2 (List.cons (Option.some (Value.ref p)) (List.cons l4 List.nil))))) (Prod.mk st (Prod.mk w (Prod.mk k n))))) = WP (MX1_cardText g) Q (Prod.mk 50 (Prod.mk (List.cons l0 (List.cons l1 (List.cons l2 (List.cons (Option.some (Value.ref p)) (List.cons l4 List.nil))))) (Prod.mk (List.cons (Value.ref p) st) (Prod.mk w (Prod.mk k n))))) := alnR_e rfl (oy_45 qx_cX1_cardText_1 17 rfl) rfl
theorem eX1_cardText_49N {g : RO} {Q : Ot → Hw → Prop} {st : List Value} {w : Hw} {k n : Nat} {l0 l1 l2 l4 : Option Value} : WP (MX1_cardText g) Q (Prod.mk 49 (Prod.mk (List.cons l0 (List.cons l1 (List.cons l2 (List.cons (Option.some Value.null) (List.cons l4 List.nil))))) (Prod.mk st (Prod.mk w (Prod.mk k n))))) = WP (MX1_cardText g) Q (Prod.mk 50 (Prod.mk (List.cons l0 (List.cons l1 (List.cons l2 (List.cons (Option.some Value.null) (List.cons l4 List.nil))))) (Prod.mk (List.cons Value.null st) (Prod.mk w (Prod.mk k n))))) := alnN_e rfl (oy_45 qx_cX1_cardText_1 17 rfl) rfl
theorem eX1_cardText_50 {g : RO} {Q : Ot → Hw → Prop} {w : Hw} {st : List Value} {k n p : Nat} {l0 l1 l2 l3 l4 : Option Value} : WP (MX1_cardText g) Q (Prod.mk 50 (Prod.mk (List.cons l0 (List.cons l1 (List.cons l2 (List.cons l3 (List.cons l4 List.nil))))) (Prod.mk (List.cons (Value.ref p) st) (Prod.mk w (Prod.mk k n))))) = (go (rd g w p) 1 (fun _ => True) ∧ wt st ≤ 8 ∧ k + kfI [Value.ref p, Value.int (32 : Int32)] w ≤ 19 ∧ n + sfI [Value.ref p, Value.int (32 : Int32)] w ≤ 1530 ∧ WP (MJ4_append_cf468 g (kfI [Value.ref p, Value.int (32 : Int32)] w) (sfI [Value.ref p, Value.int (32 : Int32)] w)) (kx (fun v w' => WP (MX1_cardText g) Q (Prod.mk 55 (Prod.mk (List.cons l0 (List.cons l1 (List.cons l2 (List.cons l3 (List.cons l4 List.nil))))) (Prod.mk (v.toList ++ st) (Prod.mk w' (Prod.mk (k + kfI [Value.ref p, Value.int (32 : Int32)] w) (n + sfI [Value.ref p, Value.int (32 : Int32)] w))))))) (fun E w' => Q (.inr E) w')) (Prod.mk 0 (Prod.mk (List.cons (Option.some (Value.ref p)) (List.cons (Option.some (Value.int (32 : Int32))) List.nil)) (Prod.mk List.nil (Prod.mk w (Prod.mk 0 0)))))) := Eq.trans (bipush_e rfl (oy_16 qx_cX1_cardText_1 18 32 rfl rfl rfl) (by decide)) (csV (M := (MX1_cardText g)) (mc := kfI) (ms := sfI) (As := [.int (32 : Int32)]) (rest := st) (MJ4_append_cf468 g (kfI [.ref p, .int (32 : Int32)] w) (sfI [.ref p, .int (32 : Int32)] w)) rfl rfl (oy_182 qx_cX1_cardText_1 20 0 146 rfl rfl rfl rfl) (by exact fun h => nomatch (show (none : Option Nat) = some 11 from h)) (by exact fun h => nomatch (show (none : Option Nat) = some 15 from h)) rfl rfl (by decide) (Nat.le_of_ble_eq_true rfl) (Nat.le_of_ble_eq_true rfl) rfl)
theorem eX1_cardText_55 {g : RO} {Q : Ot → Hw → Prop} {st : List Value} {w : Hw} {k n : Nat} {a : Int32} {l0 l1 l2 l3 l4 : Option Value} : WP (MX1_cardText g) Q (Prod.mk 55 (Prod.mk (List.cons l0 (List.cons l1 (List.cons l2 (List.cons l3 (List.cons l4 List.nil))))) (Prod.mk (List.cons (Value.int a) st) (Prod.mk w (Prod.mk k n))))) = WP (MX1_cardText g) Q (Prod.mk 56 (Prod.mk (List.cons l0 (List.cons l1 (List.cons l2 (List.cons l3 (List.cons l4 List.nil))))) (Prod.mk st (Prod.mk w (Prod.mk k n))))) := popI_e rfl (oy_87 qx_cX1_cardText_1 23 rfl)
theorem eX1_cardText_55R {g : RO} {Q : Ot → Hw → Prop} {st : List Value} {w : Hw} {k n p : Nat} {l0 l1 l2 l3 l4 : Option Value} : WP (MX1_cardText g) Q (Prod.mk 55 (Prod.mk (List.cons l0 (List.cons l1 (List.cons l2 (List.cons l3 (List.cons l4 List.nil))))) (Prod.mk (List.cons (Value.ref p) st) (Prod.mk w (Prod.mk k n))))) = WP (MX1_cardText g) Q (Prod.mk 56 (Prod.mk (List.cons l0 (List.cons l1 (List.cons l2 (List.cons l3 (List.cons l4 List.nil))))) (Prod.mk st (Prod.mk w (Prod.mk k n))))) := popR_e rfl (oy_87 qx_cX1_cardText_1 23 rfl)
theorem eX1_cardText_55N {g : RO} {Q : Ot → Hw → Prop} {st : List Value} {w : Hw} {k n : Nat} {l0 l1 l2 l3 l4 : Option Value} : WP (MX1_cardText g) Q (Prod.mk 55 (Prod.mk (List.cons l0 (List.cons l1 (List.cons l2 (List.cons l3 (List.cons l4 List.nil))))) (Prod.mk (List.cons Value.null st) (Prod.mk w (Prod.mk k n))))) = WP (MX1_cardText g) Q (Prod.mk 56 (Prod.mk (List.cons l0 (List.cons l1 (List.cons l2 (List.cons l3 (List.cons l4 List.nil))))) (Prod.mk st (Prod.mk w (Prod.mk k n))))) := popN_e rfl (oy_87 qx_cX1_cardText_1 23 rfl)
theorem eX1_cardText_56 {g : RO} {Q : Ot → Hw → Prop} {w : Hw} {a : Int32} {st : List Value} {k n : Nat} {l0 l1 l2 l3 : Option Value} : WP (MX1_cardText g) Q (Prod.mk 56 (Prod.mk (List.cons l0 (List.cons l1 (List.cons l2 (List.cons l3 (List.cons (Option.some (Value.int a)) List.nil))))) (Prod.mk st (Prod.mk w (Prod.mk k n))))) = WP (MX1_cardText g) Q (Prod.mk 29 (Prod.mk (List.cons l0 (List.cons l1 (List.cons l2 (List.cons (nl l3) (List.cons (Option.some (Value.int (a + (-1)))) List.nil))))) (Prod.mk st (Prod.mk w (Prod.mk k n))))) := Eq.trans (Eq.trans (iinc_e (M := (MX1_cardText g)) (L := [l0, l1, l2, l3, some (.int a)]) (d := (-1)) rfl (oy_132 qx_cX1_cardText_1 24 4 255 rfl rfl rfl rfl) (by decide) rfl) rfl) (goto_e rfl (oy_167 qx_cX1_cardText_1 27 255 226 rfl rfl rfl rfl) (by decide))
theorem eX1_cardText_62 {g : RO} {Q : Ot → Hw → Prop} {st : List Value} {w : Hw} {k n p : Nat} {l0 l1 l2 l4 : Option Value} : WP (MX1_cardText g) Q (Prod.mk 62 (Prod.mk (List.cons l0 (List.cons l1 (List.cons l2 (List.cons (Option.some (Value.ref p)) (List.cons l4 List.nil))))) (Prod.mk st (Prod.mk w (Prod.mk k n))))) = WP (MX1_cardText g) Q (Prod.mk 63 (Prod.mk (List.cons l0 (List.cons l1 (List.cons l2 (List.cons (Option.some (Value.ref p)) (List.cons l4 List.nil))))) (Prod.mk (List.cons (Value.ref p) st) (Prod.mk w (Prod.mk k n))))) := alnR_e rfl (oy_45 qx_cX1_cardText_1 30 rfl) rfl
theorem eX1_cardText_62N {g : RO} {Q : Ot → Hw → Prop} {st : List Value} {w : Hw} {k n : Nat} {l0 l1 l2 l4 : Option Value} : WP (MX1_cardText g) Q (Prod.mk 62 (Prod.mk (List.cons l0 (List.cons l1 (List.cons l2 (List.cons (Option.some Value.null) (List.cons l4 List.nil))))) (Prod.mk st (Prod.mk w (Prod.mk k n))))) = WP (MX1_cardText g) Q (Prod.mk 63 (Prod.mk (List.cons l0 (List.cons l1 (List.cons l2 (List.cons (Option.some Value.null) (List.cons l4 List.nil))))) (Prod.mk (List.cons Value.null st) (Prod.mk w (Prod.mk k n))))) := alnN_e rfl (oy_45 qx_cX1_cardText_1 30 rfl) rfl
theorem eX1_cardText_63 {g : RO} {Q : Ot → Hw → Prop} {st : List Value} {w : Hw} {k n p : Nat} {l0 l1 l2 l3 l4 : Option Value} : WP (MX1_cardText g) Q (Prod.mk 63 (Prod.mk (List.cons l0 (List.cons l1 (List.cons l2 (List.cons l3 (List.cons l4 List.nil))))) (Prod.mk (List.cons (Value.ref p) st) (Prod.mk w (Prod.mk k n))))) = (go (rd g w p) 1 (fun _ => True) ∧ wt st ≤ 8 ∧ k + 0 ≤ 19 ∧ n + 0 ≤ 1530 ∧ WP (MJ4_reverse_43fcb g) (kx (fun v w' => WP (MX1_cardText g) Q (Prod.mk 66 (Prod.mk (List.cons l0 (List.cons l1 (List.cons l2 (List.cons l3 (List.cons l4 List.nil))))) (Prod.mk (v.toList ++ st) (Prod.mk w' (Prod.mk (k + 0) (n + 0))))))) (fun E w' => Q (.inr E) w')) (Prod.mk 0 (Prod.mk (List.cons (Option.some (Value.ref p)) List.nil) (Prod.mk List.nil (Prod.mk w (Prod.mk 0 0)))))) := csV (M := (MX1_cardText g)) (mc := (fun _ _ => 0)) (ms := (fun _ _ => 0)) (As := []) (rest := st) (MJ4_reverse_43fcb g) rfl rfl (oy_182 qx_cX1_cardText_1 31 0 71 rfl rfl rfl rfl) (by exact fun h => nomatch (show (none : Option Nat) = some 11 from h)) (by exact fun h => nomatch (show (none : Option Nat) = some 15 from h)) rfl rfl (by decide) (Nat.le_of_ble_eq_true rfl) (Nat.le_of_ble_eq_true rfl) rfl
theorem eX1_cardText_66 {g : RO} {Q : Ot → Hw → Prop} {st : List Value} {w : Hw} {k n p : Nat} {l0 l1 l2 l3 l4 : Option Value} : WP (MX1_cardText g) Q (Prod.mk 66 (Prod.mk (List.cons l0 (List.cons l1 (List.cons l2 (List.cons l3 (List.cons l4 List.nil))))) (Prod.mk (List.cons (Value.ref p) st) (Prod.mk w (Prod.mk k n))))) = (go (rd g w p) 1 (fun _ => True) ∧ wt st ≤ 8 ∧ k + 2 ≤ 19 ∧ n + 94 ≤ 1530 ∧ WP (MJ4_toString_0e30d g) (kx (fun v w' => WP (MX1_cardText g) Q (Prod.mk 69 (Prod.mk (List.cons l0 (List.cons l1 (List.cons l2 (List.cons l3 (List.cons l4 List.nil))))) (Prod.mk (v.toList ++ st) (Prod.mk w' (Prod.mk (k + 2) (n + 94))))))) (fun E w' => Q (.inr E) w')) (Prod.mk 0 (Prod.mk (List.cons (Option.some (Value.ref p)) List.nil) (Prod.mk List.nil (Prod.mk w (Prod.mk 0 0)))))) := csV (M := (MX1_cardText g)) (mc := (fun _ _ => 2)) (ms := (fun _ _ => 94)) (As := []) (rest := st) (MJ4_toString_0e30d g) rfl rfl (oy_182 qx_cX1_cardText_2 2 0 75 rfl rfl rfl rfl) (by exact fun h => nomatch (show (none : Option Nat) = some 11 from h)) (by exact fun h => nomatch (show (none : Option Nat) = some 15 from h)) rfl rfl (by decide) (Nat.le_of_ble_eq_true rfl) (Nat.le_of_ble_eq_true rfl) rfl
theorem eX1_cardText_69 {g : RO} {Q : Ot → Hw → Prop} {w : Hw} {k n p : Nat} {l0 l1 l2 l3 l4 : Option Value} : WP (MX1_cardText g) Q (Prod.mk 69 (Prod.mk (List.cons l0 (List.cons l1 (List.cons l2 (List.cons l3 (List.cons l4 List.nil))))) (Prod.mk (List.cons (Value.ref p) List.nil) (Prod.mk w (Prod.mk k n))))) = (k ≤ 19 ∧ n ≤ 1530 ∧ Q (.inl (Option.some (Value.ref p))) w) := aretR_e rfl (oy_176 qx_cX1_cardText_2 5 rfl) rfl
theorem eX1_cardText_69N {g : RO} {Q : Ot → Hw → Prop} {w : Hw} {k n : Nat} {l0 l1 l2 l3 l4 : Option Value} : WP (MX1_cardText g) Q (Prod.mk 69 (Prod.mk (List.cons l0 (List.cons l1 (List.cons l2 (List.cons l3 (List.cons l4 List.nil))))) (Prod.mk (List.cons Value.null List.nil) (Prod.mk w (Prod.mk k n))))) = (k ≤ 19 ∧ n ≤ 1530 ∧ Q (.inl (Option.some Value.null)) w) := aretN_e rfl (oy_176 qx_cX1_cardText_2 5 rfl) rfl
theorem vMX1_cardText {l : Launch} (hl : l.stackTraces = false) (G : GT) : vM l G (MX1_cardText (gg G)) := vM_k RX1 cX1_cardText rfl rfl (all_c (vF_RX1_15) (all_n)) (all_c (vN_RX1_64) (all_n)) all_n all_n all_n (fun h => absurd rfl h) (all_c (kc_78 hl wk_816) (all_c (kc_43 hl wk_501) (all_c (kc_84 hl (⟨"Rangecard", tm_1 (List.mem_of_getElem? (i := 150) (by eq_refl : tables_1_1[150]? = some (.methodLinkNest RX1 141 yX0_endAt "Rangecard")))⟩)) (all_c (kc_137 hl wk_530) (all_c (kc_136 hl wk_625) (all_c (kc_138 hl wk_666) (all_c (kc_46 hl wk_700) (all_n)))))))) (all_c (Or.inr (Or.inl ⟨"-", by decide⟩)) (all_n)) all_n (fun h => absurd rfl h) rfl all_n
theorem okX1_cardText {l : Launch} (hl : l.stackTraces = false) {G : GT} : ∀ (args : List Value) (w : Hw) (S : Ot → Hw → Prop), spOf (MX1_cardText (gg G)) args w S → CX l G yX1_cardText (.code yX1_cardText cX1_cardText 5 (some (.object "java/lang/String"))) 7 19 1530 args w S := CX_sp (M := MX1_cardText (gg G)) (y := yX1_cardText) hl pn16 rfl (vMX1_cardText hl G) (fun h => by cases h) rfl
end
/-! 67.21.range.lean.txt -/
section
section
variable {g : RO} {Q : Ot → Hw → Prop} {w0 w : Hw} {x nA cA lA : Nat} {kn : Int32}
set_option maxHeartbeats 4000000 in
theorem sX0_isInOrder {a0 : Int64} {a1 : Int64} {a2 : Int64} {a3 : Int64} (hQ : ∀ v : Bool, Q (.inl (some (.int (bI v)))) w) : WP (MX0_isInOrder g) Q (0, [some (.long a0), none, some (.long a1), none, some (.long a2), none, some (.long a3), none], [], w, 0, 0) := by
  have hQt : Q (.inl (some (.int 1))) w := hQ true
  have hQf : Q (.inl (some (.int 0))) w := hQ false
  simp only [eX0_isInOrder_0, eX0_isInOrder_6, eX0_isInOrder_14, eX0_isInOrder_21, eX0_isInOrder_28, eX0_isInOrder_32, eX0_isInOrder_33, nb_0, nb_1, true_and]
  split
  with_reducible refine And.intro ?_ ?_
  omega
  with_reducible refine And.intro ?_ ?_
  omega
  with_reducible assumption
  split
  with_reducible refine And.intro ?_ ?_
  omega
  with_reducible refine And.intro ?_ ?_
  omega
  with_reducible assumption
  split
  with_reducible refine And.intro ?_ ?_
  omega
  with_reducible refine And.intro ?_ ?_
  omega
  with_reducible assumption
  split
  with_reducible refine And.intro ?_ ?_
  omega
  with_reducible refine And.intro ?_ ?_
  omega
  with_reducible assumption
  with_reducible refine And.intro ?_ ?_
  omega
  with_reducible refine And.intro ?_ ?_
  omega
  with_reducible assumption
set_option maxHeartbeats 4000000 in
theorem sX0_holds {p : Nat} {a0 : Int64} (hp : isR w p) (hQ : ∀ v : Bool, Q (.inl (some (.int (bI v)))) w) : WP (MX0_holds g) Q (0, [some (.ref p), some (.long a0), none], [], w, 0, 0) := by
  have hQt : Q (.inl (some (.int 1))) w := hQ true
  have hQf : Q (.inl (some (.int 0))) w := hQ false
  simp only [eX0_holds_0, eX0_holds_4]
  with_reducible refine go_R (by assumption) ?_
  simp only [eX0_holds_5, eX0_holds_9, eX0_holds_22, eX0_holds_23, g0, ex1, nb_0, true_and]
  with_reducible intro _
  split
  with_reducible intro _
  with_reducible intro _
  with_reducible intro _
  with_reducible refine And.intro ?_ ?_
  omega
  with_reducible refine And.intro ?_ ?_
  omega
  with_reducible assumption
  with_reducible intro _
  with_reducible intro _
  with_reducible intro _
  with_reducible refine go_R (by assumption) ?_
  simp only [eX0_holds_14, eX0_holds_18, eX0_holds_22, eX0_holds_23, g0, gS, ex1, nb_0, nb_1, true_and]
  with_reducible intro _
  with_reducible intro _
  with_reducible intro _
  with_reducible intro _
  split
  with_reducible refine And.intro ?_ ?_
  omega
  with_reducible refine And.intro ?_ ?_
  omega
  with_reducible assumption
  with_reducible refine And.intro ?_ ?_
  omega
  with_reducible refine And.intro ?_ ?_
  omega
  with_reducible assumption
set_option maxHeartbeats 4000000 in
theorem sX0_fitsSmall {p : Nat} (hp : isR w p) (hQ : ∀ v : Bool, Q (.inl (some (.int (bI v)))) w) : WP (MX0_fitsSmall g) Q (0, [some (.ref p)], [], w, 0, 0) := by
  have hQt : Q (.inl (some (.int 1))) w := hQ true
  have hQf : Q (.inl (some (.int 0))) w := hQ false
  simp only [eX0_fitsSmall_0, eX0_fitsSmall_4]
  with_reducible refine go_R (by assumption) ?_
  simp only [eX0_fitsSmall_7, eX0_fitsSmall_11, eX0_fitsSmall_15, eX0_fitsSmall_26, eX0_fitsSmall_27, g0, ex1, nb_0, true_and]
  with_reducible intro _
  split
  with_reducible intro _
  with_reducible intro _
  with_reducible intro _
  with_reducible refine And.intro ?_ ?_
  omega
  with_reducible refine And.intro ?_ ?_
  omega
  with_reducible assumption
  with_reducible intro _
  with_reducible intro _
  with_reducible intro _
  with_reducible refine go_R (by assumption) ?_
  simp only [eX0_fitsSmall_18, eX0_fitsSmall_22, eX0_fitsSmall_26, eX0_fitsSmall_27, g0, gS, ex1, nb_0, nb_1, true_and]
  with_reducible intro _
  with_reducible intro _
  with_reducible intro _
  with_reducible intro _
  split
  with_reducible refine And.intro ?_ ?_
  omega
  with_reducible refine And.intro ?_ ?_
  omega
  with_reducible assumption
  with_reducible refine And.intro ?_ ?_
  omega
  with_reducible refine And.intro ?_ ?_
  omega
  with_reducible assumption
set_option maxHeartbeats 4000000 in
theorem sX0_holdsAsSmall {p : Nat} {a0 : Int64} (hp : isR w p) (hQ : ∀ v : Bool, Q (.inl (some (.int (bI v)))) w) : WP (MX0_holdsAsSmall g) Q (0, [some (.ref p), some (.long a0), none], [], w, 0, 0) := by
  have hQt : Q (.inl (some (.int 1))) w := hQ true
  have hQf : Q (.inl (some (.int 0))) w := hQ false
  simp only [eX0_holdsAsSmall_0, wt_nil, Nat.add_zero]
  with_reducible refine And.intro ?_ ?_
  with_reducible refine go_R (by assumption) ?_
  with_reducible intro _
  with_reducible intro _
  with_reducible intro _
  with_reducible intro _
  simp only []
  with_reducible refine And.intro ?_ ?_
  omega
  with_reducible refine And.intro ?_ ?_
  omega
  with_reducible refine And.intro ?_ ?_
  omega
  with_reducible refine sX0_fitsSmall (by first | assumption | exact hgc _ _ (by assumption) | exact hgl _ _ (by assumption) | exact isR.ext (by assumption) (by assumption)) ?_
  simp only [eX0_holdsAsSmall_4, eX0_holdsAsSmall_7, eX0_holdsAsSmall_19, eX0_holdsAsSmall_20, kx_l, wt_nil, tl_s, nb_0, true_and, Nat.add_zero]
  with_reducible intro _
  split
  with_reducible refine And.intro ?_ ?_
  omega
  with_reducible refine And.intro ?_ ?_
  omega
  with_reducible assumption
  with_reducible refine And.intro ?_ ?_
  with_reducible refine go_R (by assumption) ?_
  with_reducible intro _
  with_reducible intro _
  with_reducible intro _
  with_reducible intro _
  simp only []
  with_reducible refine And.intro ?_ ?_
  omega
  with_reducible refine And.intro ?_ ?_
  omega
  with_reducible refine And.intro ?_ ?_
  omega
  with_reducible refine sX0_holds (by first | assumption | exact hgc _ _ (by assumption) | exact hgl _ _ (by assumption) | exact isR.ext (by assumption) (by assumption)) ?_
  simp only [eX0_holdsAsSmall_12, eX0_holdsAsSmall_15, eX0_holdsAsSmall_19, eX0_holdsAsSmall_20, kx_l, tl_s, nb_0, nb_1, true_and]
  with_reducible intro _
  split
  with_reducible refine And.intro ?_ ?_
  omega
  with_reducible refine And.intro ?_ ?_
  omega
  with_reducible assumption
  with_reducible refine And.intro ?_ ?_
  omega
  with_reducible refine And.intro ?_ ?_
  omega
  with_reducible assumption
set_option maxHeartbeats 4000000 in
theorem sX0_holdsAs {p : Nat} {a0 : Int64} {a1 : Int32} (hp : isR w p) (hQ : ∀ v : Bool, Q (.inl (some (.int (bI v)))) w) : WP (MX0_holdsAs g) Q (0, [some (.ref p), some (.long a0), none, some (.int a1)], [], w, 0, 0) := by
  have hQt : Q (.inl (some (.int 1))) w := hQ true
  have hQf : Q (.inl (some (.int 0))) w := hQ false
  simp only [eX0_holdsAs_0, eX0_holdsAs_4, eX0_holdsAs_9, eX0_holdsAs_12, wt_nil, Nat.add_zero]
  split
  with_reducible refine And.intro ?_ ?_
  with_reducible refine go_R (by assumption) ?_
  with_reducible intro _
  with_reducible intro _
  with_reducible intro _
  with_reducible intro _
  simp only []
  with_reducible refine And.intro ?_ ?_
  omega
  with_reducible refine And.intro ?_ ?_
  omega
  with_reducible refine And.intro ?_ ?_
  omega
  with_reducible refine sX0_holds (by first | assumption | exact hgc _ _ (by assumption) | exact hgl _ _ (by assumption) | exact isR.ext (by assumption) (by assumption)) ?_
  simp only [eX0_holdsAs_17, kx_l, tl_s, nb_b, true_and]
  with_reducible intro _
  with_reducible refine And.intro ?_ ?_
  omega
  with_reducible refine And.intro ?_ ?_
  omega
  with_reducible exact hQ _
  with_reducible refine And.intro ?_ ?_
  with_reducible refine go_R (by assumption) ?_
  with_reducible intro _
  with_reducible intro _
  with_reducible intro _
  with_reducible intro _
  simp only []
  with_reducible refine And.intro ?_ ?_
  omega
  with_reducible refine And.intro ?_ ?_
  omega
  with_reducible refine And.intro ?_ ?_
  omega
  with_reducible refine sX0_holdsAsSmall (by first | assumption | exact hgc _ _ (by assumption) | exact hgl _ _ (by assumption) | exact isR.ext (by assumption) (by assumption)) ?_
  simp only [eX0_holdsAs_17, kx_l, tl_s, nb_b, true_and]
  with_reducible intro _
  with_reducible refine And.intro ?_ ?_
  omega
  with_reducible refine And.intro ?_ ?_
  omega
  with_reducible exact hQ _
set_option maxHeartbeats 4000000 in
theorem sX0_isSettled {p : Nat} (hp : isR w p) (hQ : ∀ v : Bool, Q (.inl (some (.int (bI v)))) w) : WP (MX0_isSettled g) Q (0, [some (.ref p)], [], w, 0, 0) := by
  have hQt : Q (.inl (some (.int 1))) w := hQ true
  have hQf : Q (.inl (some (.int 0))) w := hQ false
  simp only [eX0_isSettled_0, eX0_isSettled_4]
  with_reducible refine go_R (by assumption) ?_
  simp only [g0, ex1]
  with_reducible intro _
  with_reducible intro _
  with_reducible intro _
  with_reducible intro _
  with_reducible refine go_R (by assumption) ?_
  simp only [eX0_isSettled_8, eX0_isSettled_12, eX0_isSettled_16, eX0_isSettled_28, eX0_isSettled_29, g0, gS, ex1, nb_0, true_and]
  with_reducible intro _
  with_reducible intro _
  split
  with_reducible intro _
  with_reducible intro _
  with_reducible refine go_R (by assumption) ?_
  simp only [g0, gS, ex1]
  with_reducible intro _
  with_reducible intro _
  with_reducible intro _
  with_reducible intro _
  with_reducible refine go_R (by assumption) ?_
  simp only [eX0_isSettled_20, eX0_isSettled_24, eX0_isSettled_28, eX0_isSettled_29, g0, gS, ex1, nb_0, nb_1, true_and]
  with_reducible intro _
  with_reducible intro _
  with_reducible intro _
  with_reducible intro _
  split
  with_reducible refine And.intro ?_ ?_
  omega
  with_reducible refine And.intro ?_ ?_
  omega
  with_reducible assumption
  with_reducible refine And.intro ?_ ?_
  omega
  with_reducible refine And.intro ?_ ?_
  omega
  with_reducible assumption
  with_reducible intro _
  with_reducible intro _
  with_reducible refine And.intro ?_ ?_
  omega
  with_reducible refine And.intro ?_ ?_
  omega
  with_reducible assumption
set_option maxHeartbeats 4000000 in
theorem sX0_matchesR {p : Nat} {a0 : Nat} (hp : isR w p) (h0 : isR w a0) (hQ : ∀ v : Bool, Q (.inl (some (.int (bI v)))) w) : WP (MX0_matches g) Q (0, [some (.ref p), some (.ref a0)], [], w, 0, 0) := by
  have hQt : Q (.inl (some (.int 1))) w := hQ true
  have hQf : Q (.inl (some (.int 0))) w := hQ false
  simp only [eX0_matches_0, eX0_matches_1R, eX0_matches_4, eX0_matches_8]
  with_reducible refine go_R (by assumption) ?_
  simp only [g0, ex1]
  with_reducible intro _
  with_reducible intro _
  with_reducible intro _
  with_reducible intro _
  with_reducible refine go_R (by assumption) ?_
  simp only [eX0_matches_12, eX0_matches_16, eX0_matches_20, eX0_matches_56, eX0_matches_57, g0, ex1, nb_0, true_and]
  with_reducible intro _
  split
  with_reducible intro _
  with_reducible intro _
  with_reducible intro _
  with_reducible refine go_R (by assumption) ?_
  simp only [g0, gS, ex1]
  with_reducible intro _
  with_reducible intro _
  with_reducible intro _
  with_reducible intro _
  with_reducible refine go_R (by assumption) ?_
  simp only [eX0_matches_24, eX0_matches_28, eX0_matches_32, eX0_matches_56, eX0_matches_57, g0, gS, ex1, nb_0, true_and]
  with_reducible intro _
  with_reducible intro _
  split
  with_reducible intro _
  with_reducible intro _
  with_reducible refine go_R (by assumption) ?_
  simp only [g0, gS, ex1]
  with_reducible intro _
  with_reducible intro _
  with_reducible intro _
  with_reducible intro _
  with_reducible refine go_R (by assumption) ?_
  simp only [eX0_matches_36, eX0_matches_40, eX0_matches_44, eX0_matches_56, eX0_matches_57, g0, gS, ex1, nb_0, true_and]
  with_reducible intro _
  with_reducible intro _
  with_reducible intro _
  split
  with_reducible intro _
  with_reducible refine go_R (by assumption) ?_
  simp only [g0, gS, ex1]
  with_reducible intro _
  with_reducible intro _
  with_reducible intro _
  with_reducible intro _
  with_reducible refine go_R (by assumption) ?_
  simp only [eX0_matches_48, eX0_matches_52, eX0_matches_56, eX0_matches_57, g0, gS, ex1, nb_0, nb_1, true_and]
  with_reducible intro _
  with_reducible intro _
  with_reducible intro _
  with_reducible intro _
  split
  with_reducible refine And.intro ?_ ?_
  omega
  with_reducible refine And.intro ?_ ?_
  omega
  with_reducible assumption
  with_reducible refine And.intro ?_ ?_
  omega
  with_reducible refine And.intro ?_ ?_
  omega
  with_reducible assumption
  with_reducible intro _
  with_reducible refine And.intro ?_ ?_
  omega
  with_reducible refine And.intro ?_ ?_
  omega
  with_reducible assumption
  with_reducible intro _
  with_reducible intro _
  with_reducible refine And.intro ?_ ?_
  omega
  with_reducible refine And.intro ?_ ?_
  omega
  with_reducible assumption
  with_reducible intro _
  with_reducible intro _
  with_reducible intro _
  with_reducible refine And.intro ?_ ?_
  omega
  with_reducible refine And.intro ?_ ?_
  omega
  with_reducible assumption
set_option maxHeartbeats 4000000 in
theorem sX0_matchesN {p : Nat} (hp : isR w p) (hQ : ∀ v : Bool, Q (.inl (some (.int (bI v)))) w) : WP (MX0_matches g) Q (0, [some (.ref p), some .null], [], w, 0, 0) := by
  have hQt : Q (.inl (some (.int 1))) w := hQ true
  have hQf : Q (.inl (some (.int 0))) w := hQ false
  simp only [eX0_matches_0N, eX0_matches_1N, eX0_matches_56, eX0_matches_57, nb_0, true_and]
  with_reducible refine And.intro ?_ ?_
  omega
  with_reducible refine And.intro ?_ ?_
  omega
  with_reducible assumption
set_option maxHeartbeats 4000000 in
theorem sX0_hash {p : Nat} (hp : isR w p) (hQ : ∀ v : Int64, Q (.inl (some (.long v))) w) : WP (MX0_hash g) Q (0, [some (.ref p), none, none], [], w, 0, 0) := by
  simp only [eX0_hash_0]
  with_reducible refine go_R (by assumption) ?_
  simp only [eX0_hash_4, eX0_hash_10, nl_ref, g0, ex1]
  with_reducible intro _
  with_reducible intro _
  with_reducible intro _
  with_reducible intro _
  with_reducible refine go_R (by assumption) ?_
  simp only [eX0_hash_14, eX0_hash_21, nl_ref, g0, gS, ex1]
  with_reducible intro _
  with_reducible intro _
  with_reducible intro _
  with_reducible intro _
  with_reducible refine go_R (by assumption) ?_
  simp only [eX0_hash_25, eX0_hash_32, nl_ref, g0, gS, ex1]
  with_reducible intro _
  with_reducible intro _
  with_reducible intro _
  with_reducible intro _
  with_reducible refine go_R (by assumption) ?_
  simp only [eX0_hash_36, g0, gS, ex1]
  with_reducible intro _
  with_reducible intro _
  with_reducible intro _
  with_reducible intro _
  with_reducible refine And.intro ?_ ?_
  omega
  with_reducible refine And.intro ?_ ?_
  omega
  with_reducible exact hQ _
set_option maxHeartbeats 4000000 in
theorem sX0_ofFour {a0 a1 a2 a3 : Int64} (hN : Q (.inl (some .null)) w) (hQ : ∀ (q : Nat) (w' : Hw), ext g w w' → isR w' q → Q (.inl (some (.ref q))) w') : WP (MX0_ofFour g) Q (0, [some (.long a0), none, some (.long a1), none, some (.long a2), none, some (.long a3), none], [], w, 0, 0) := by
  simp only [eX0_ofFour_0, wt_nil, Nat.add_zero]
  with_reducible refine And.intro ?_ ?_
  omega
  with_reducible refine And.intro ?_ ?_
  omega
  with_reducible refine And.intro ?_ ?_
  omega
  with_reducible refine sX0_isInOrder ?_
  simp only [eX0_ofFour_9, eX0_ofFour_12, eX0_ofFour_15R, eX0_ofFour_25, eX0_ofFour_28, eX0_ofFour_29, eX0_ofFour_29N, eX0_init_0, eX0_init_4, eX0_init_9, eX0_init_14, eX0_init_20, eX0_init_26, kx_l, go_s, wt_nil, wt_ref, tl_s, tl_n, nf_l, true_and, List.set_cons_zero, List.set_cons_succ, List.length_cons, List.length_nil, upw_s, Nat.zero_add, Nat.add_zero]
  with_reducible intro _
  split
  with_reducible refine And.intro ?_ ?_
  omega
  with_reducible refine And.intro ?_ ?_
  omega
  with_reducible assumption
  with_reducible refine And.intro ?_ ?_
  omega
  with_reducible refine And.intro ?_ ?_
  omega
  with_reducible intro _
  with_reducible intro _
  with_reducible refine And.intro ?_ ?_
  omega
  with_reducible refine And.intro ?_ ?_
  omega
  with_reducible refine And.intro ?_ ?_
  omega
  with_reducible refine And.intro ?_ ?_
  omega
  with_reducible refine And.intro ?_ ?_
  omega
  with_reducible refine And.intro ?_ ?_
  omega
  with_reducible refine And.intro ?_ ?_
  omega
  with_reducible refine And.intro ?_ ?_
  omega
  with_reducible refine And.intro ?_ ?_
  omega
  with_reducible refine And.intro ?_ ?_
  omega
  with_reducible refine And.intro ?_ ?_
  omega
  with_reducible refine And.intro ?_ ?_
  omega
  with_reducible exact hQ _ _ (by repeat' first | assumption | exact ext.rf | refine ext_up2 ?_ ?_) isR_up
set_option maxHeartbeats 4000000 in
theorem sX0_ofTwo {a0 : Int64} {a1 : Int64} (hN : Q (.inl (some .null)) w) (hQ : ∀ (q : Nat) (w' : Hw), ext g w w' → isR w' q → Q (.inl (some (.ref q))) w') : WP (MX0_ofTwo g) Q (0, [some (.long a0), none, some (.long a1), none], [], w, 0, 0) := by
  simp only [eX0_ofTwo_0, wt_nil, Nat.zero_add]
  with_reducible refine And.intro ?_ ?_
  omega
  with_reducible refine And.intro ?_ ?_
  omega
  with_reducible refine And.intro ?_ ?_
  omega
  with_reducible refine sX0_ofFour ?_ ?_
  simp only [eX0_ofTwo_7N, kx_l, tl_s]
  with_reducible refine And.intro ?_ ?_
  omega
  with_reducible refine And.intro ?_ ?_
  omega
  with_reducible assumption
  simp only [eX0_ofTwo_7, kx_l, tl_s]
  with_reducible intro _
  with_reducible intro _
  with_reducible intro _
  with_reducible intro _
  with_reducible refine And.intro ?_ ?_
  omega
  with_reducible refine And.intro ?_ ?_
  omega
  with_reducible exact hQ _ _ (by assumption) (by assumption)
set_option maxHeartbeats 4000000 in
theorem sX0_endAt {p : Nat} {a0 : Int32} (hp : isR w p) (hQ : ∀ v : Int64, Q (.inl (some (.long v))) w) : WP (MX0_endAt g) Q (0, [some (.ref p), some (.int a0)], [], w, 0, 0) := by
  rcases sw02 a0 with rfl | rfl | rfl | hsw
  · simp only [eX0_endAt_0, eX0_endAt_1_0, eX0_endAt_28]
    with_reducible refine go_R (by assumption) ?_
    simp only [eX0_endAt_32, g0, ex1]
    with_reducible intro _
    with_reducible intro _
    with_reducible intro _
    with_reducible intro _
    with_reducible refine And.intro ?_ ?_
    omega
    with_reducible refine And.intro ?_ ?_
    omega
    with_reducible exact hQ _
  · simp only [eX0_endAt_0, eX0_endAt_1_1, eX0_endAt_33]
    with_reducible refine go_R (by assumption) ?_
    simp only [eX0_endAt_37, g0, gS, ex1]
    with_reducible intro _
    with_reducible intro _
    with_reducible intro _
    with_reducible intro _
    with_reducible refine And.intro ?_ ?_
    omega
    with_reducible refine And.intro ?_ ?_
    omega
    with_reducible exact hQ _
  · simp only [eX0_endAt_0, eX0_endAt_1_2, eX0_endAt_38]
    with_reducible refine go_R (by assumption) ?_
    simp only [eX0_endAt_42, g0, gS, ex1]
    with_reducible intro _
    with_reducible intro _
    with_reducible intro _
    with_reducible intro _
    with_reducible refine And.intro ?_ ?_
    omega
    with_reducible refine And.intro ?_ ?_
    omega
    with_reducible exact hQ _
  · simp only [eX0_endAt_0, eX0_endAt_43, eX0_endAt_1_d hsw]
    with_reducible refine go_R (by assumption) ?_
    simp only [eX0_endAt_47, g0, gS, ex1]
    with_reducible intro _
    with_reducible intro _
    with_reducible intro _
    with_reducible intro _
    with_reducible refine And.intro ?_ ?_
    omega
    with_reducible refine And.intro ?_ ?_
    omega
    with_reducible exact hQ _
end
end
/-! 67.22.class0.lean.txt -/
section
section
variable {g : RO} {Q : Ot → Hw → Prop} {w0 w : Hw} {x nA cA lA : Nat} {kn : Int32}
theorem sX1_needNumber {a0 : Int32} (hXo : Q (.inr "java/lang/IndexOutOfBoundsException") w) (hQ : ¬ a0 < 0 → a0 < 8 → Q (.inl none) w) : WP (MX1_needNumber g) Q (0, [some (.int a0)], [], w, 0, 0) := by
  simp only [eX1_needNumber_0, eX1_needNumber_4, eX1_needNumber_10, eX1_needNumber_20, wt_nil, Nat.zero_add]
  split
  with_reducible refine And.intro ?_ ?_
  omega
  with_reducible refine And.intro ?_ ?_
  omega
  with_reducible refine And.intro ?_ ?_
  omega
  with_reducible refine And.intro ?_ ?_
  omega
  with_reducible assumption
  split
  with_reducible refine And.intro ?_ ?_
  omega
  with_reducible refine And.intro ?_ ?_
  omega
  with_reducible exact hQ (by assumption) (by assumption)
  with_reducible refine And.intro ?_ ?_
  omega
  with_reducible refine And.intro ?_ ?_
  omega
  with_reducible refine And.intro ?_ ?_
  omega
  with_reducible refine And.intro ?_ ?_
  omega
  with_reducible assumption
theorem sX1_needCard {a0 : Int32} (hXo : Q (.inr "java/lang/IndexOutOfBoundsException") w) (hQ : ¬ a0 < 0 → a0 < 6 → Q (.inl none) w) : WP (MX1_needCard g) Q (0, [some (.int a0)], [], w, 0, 0) := by
  simp only [eX1_needCard_0, eX1_needCard_4, eX1_needCard_10, eX1_needCard_20, wt_nil, Nat.zero_add]
  split
  with_reducible refine And.intro ?_ ?_
  omega
  with_reducible refine And.intro ?_ ?_
  omega
  with_reducible refine And.intro ?_ ?_
  omega
  with_reducible refine And.intro ?_ ?_
  omega
  with_reducible assumption
  split
  with_reducible refine And.intro ?_ ?_
  omega
  with_reducible refine And.intro ?_ ?_
  omega
  with_reducible exact hQ (by assumption) (by assumption)
  with_reducible refine And.intro ?_ ?_
  omega
  with_reducible refine And.intro ?_ ?_
  omega
  with_reducible refine And.intro ?_ ?_
  omega
  with_reducible refine And.intro ?_ ?_
  omega
  with_reducible assumption
theorem sX1_needChoice {a0 a1 : Int32} (hXa : Q (.inr "java/lang/IllegalArgumentException") w) (hQ : ¬ a0 < 0 → ¬ a1 < a0 → Q (.inl none) w) : WP (MX1_needChoice g) Q (0, [some (.int a0), some (.int a1)], [], w, 0, 0) := by
  simp only [eX1_needChoice_0, eX1_needChoice_4, eX1_needChoice_9, eX1_needChoice_19, ite_le, wt_nil, Nat.zero_add]
  split
  with_reducible refine And.intro ?_ ?_
  omega
  with_reducible refine And.intro ?_ ?_
  omega
  with_reducible refine And.intro ?_ ?_
  omega
  with_reducible refine And.intro ?_ ?_
  omega
  with_reducible assumption
  split
  with_reducible refine And.intro ?_ ?_
  omega
  with_reducible refine And.intro ?_ ?_
  omega
  with_reducible refine And.intro ?_ ?_
  omega
  with_reducible refine And.intro ?_ ?_
  omega
  with_reducible assumption
  with_reducible refine And.intro ?_ ?_
  omega
  with_reducible refine And.intro ?_ ?_
  omega
  with_reducible exact hQ (by assumption) (by assumption)
set_option maxHeartbeats 4000000 in
theorem sX1_highOf {a0 : Int64} (hQ : ∀ v : Int32, Q (.inl (some (.int v))) w) : WP (MX1_highOf g) Q (0, [some (.long a0), none], [], w, 0, 0) := by
  simp only [eX1_highOf_0]
  with_reducible refine And.intro ?_ ?_
  omega
  with_reducible refine And.intro ?_ ?_
  omega
  with_reducible exact hQ _
set_option maxHeartbeats 4000000 in
theorem sX1_lowOf {a0 : Int64} (hQ : ∀ v : Int32, Q (.inl (some (.int v))) w) : WP (MX1_lowOf g) Q (0, [some (.long a0), none], [], w, 0, 0) := by
  simp only [eX1_lowOf_0]
  with_reducible refine And.intro ?_ ?_
  omega
  with_reducible refine And.intro ?_ ?_
  omega
  with_reducible exact hQ _
set_option maxHeartbeats 4000000 in
theorem sX1_asNumber {a0 : Int32} (hQ : ∀ v : Int32, Q (.inl (some (.int v))) w) : WP (MX1_asNumber g) Q (0, [some (.int a0)], [], w, 0, 0) := by
  simp only [eX1_asNumber_0, eX1_asNumber_4, eX1_asNumber_8, eX1_asNumber_9]
  split
  with_reducible refine And.intro ?_ ?_
  omega
  with_reducible refine And.intro ?_ ?_
  omega
  with_reducible exact hQ _
  with_reducible refine And.intro ?_ ?_
  omega
  with_reducible refine And.intro ?_ ?_
  omega
  with_reducible exact hQ _
set_option maxHeartbeats 4000000 in
theorem sX1_copyOf {a0 : Nat} (h0 : isR w a0) (hN : Q (.inl (some .null)) w) (hQ : ∀ (q : Nat) (w' : Hw), ext g w w' → isR w' q → Q (.inl (some (.ref q))) w') : WP (MX1_copyOf g) Q (0, [some (.ref a0)], [], w, 0, 0) := by
  simp only [eX1_copyOf_0, eX1_copyOf_4, eX1_copyOf_8, eX1_copyOf_12]
  with_reducible refine go_R (by assumption) ?_
  simp only [g0, ex1]
  with_reducible intro _
  with_reducible intro _
  with_reducible intro _
  with_reducible intro _
  with_reducible refine go_R (by assumption) ?_
  simp only [g0, gS, ex1]
  with_reducible intro _
  with_reducible intro _
  with_reducible intro _
  with_reducible intro _
  with_reducible refine go_R (by assumption) ?_
  simp only [g0, gS, ex1]
  with_reducible intro _
  with_reducible intro _
  with_reducible intro _
  with_reducible intro _
  with_reducible refine go_R (by assumption) ?_
  simp only [eX1_copyOf_16, wt_nil, g0, gS, ex1, Nat.zero_add]
  with_reducible intro _
  with_reducible intro _
  with_reducible intro _
  with_reducible intro _
  with_reducible refine And.intro ?_ ?_
  omega
  with_reducible refine And.intro ?_ ?_
  omega
  with_reducible refine And.intro ?_ ?_
  omega
  with_reducible refine sX0_ofFour ?_ ?_
  simp only [eX1_copyOf_19N, kx_l, tl_s]
  with_reducible refine And.intro ?_ ?_
  omega
  with_reducible refine And.intro ?_ ?_
  omega
  with_reducible assumption
  simp only [eX1_copyOf_19, kx_l, tl_s]
  with_reducible intro _
  with_reducible intro _
  with_reducible intro _
  with_reducible intro _
  with_reducible refine And.intro ?_ ?_
  omega
  with_reducible refine And.intro ?_ ?_
  omega
  with_reducible exact hQ _ _ (by assumption) (by assumption)
set_option maxHeartbeats 4000000 in
theorem sX1_outerOf {a0 : Nat} (h0 : isR w a0) (hN : Q (.inl (some .null)) w) (hQ : ∀ (q : Nat) (w' : Hw), ext g w w' → isR w' q → Q (.inl (some (.ref q))) w') : WP (MX1_outerOf g) Q (0, [some (.ref a0)], [], w, 0, 0) := by
  simp only [eX1_outerOf_0, eX1_outerOf_4]
  with_reducible refine go_R (by assumption) ?_
  simp only [g0, ex1]
  with_reducible intro _
  with_reducible intro _
  with_reducible intro _
  with_reducible intro _
  with_reducible refine go_R (by assumption) ?_
  simp only [eX1_outerOf_8, wt_nil, g0, gS, ex1, Nat.zero_add]
  with_reducible intro _
  with_reducible intro _
  with_reducible intro _
  with_reducible intro _
  with_reducible refine And.intro ?_ ?_
  omega
  with_reducible refine And.intro ?_ ?_
  omega
  with_reducible refine And.intro ?_ ?_
  omega
  with_reducible refine sX0_ofTwo ?_ ?_
  simp only [eX1_outerOf_11N, kx_l, tl_s]
  with_reducible refine And.intro ?_ ?_
  omega
  with_reducible refine And.intro ?_ ?_
  omega
  with_reducible assumption
  simp only [eX1_outerOf_11, kx_l, tl_s]
  with_reducible intro _
  with_reducible intro _
  with_reducible intro _
  with_reducible intro _
  with_reducible refine And.intro ?_ ?_
  omega
  with_reducible refine And.intro ?_ ?_
  omega
  with_reducible exact hQ _ _ (by assumption) (by assumption)
set_option maxHeartbeats 4000000 in
theorem sX1_validityIn {a0 : Nat} {a1 : Int64} (h0 : isR w a0) (hQ : ∀ v : Int32, Q (.inl (some (.int v))) w) : WP (MX1_validityIn g) Q (0, [some (.ref a0), some (.long a1), none], [], w, 0, 0) := by
  simp only [eX1_validityIn_0, wt_nil, Nat.add_zero]
  with_reducible refine And.intro ?_ ?_
  with_reducible refine go_R (by assumption) ?_
  with_reducible intro _
  with_reducible intro _
  with_reducible intro _
  with_reducible intro _
  simp only []
  with_reducible refine And.intro ?_ ?_
  omega
  with_reducible refine And.intro ?_ ?_
  omega
  with_reducible refine And.intro ?_ ?_
  omega
  with_reducible refine sX0_holds (by first | assumption | exact hgc _ _ (by assumption) | exact hgl _ _ (by assumption) | exact isR.ext (by assumption) (by assumption)) ?_
  simp only [eX1_validityIn_5, eX1_validityIn_8, kx_l, wt_nil, tl_s, Nat.add_zero]
  with_reducible intro _
  with_reducible refine And.intro ?_ ?_
  omega
  with_reducible refine And.intro ?_ ?_
  omega
  with_reducible refine And.intro ?_ ?_
  omega
  with_reducible refine sX1_asNumber ?_
  simp only [kx_l, wt_nil, wt_int, tl_s, Nat.add_zero]
  with_reducible intro _
  with_reducible refine And.intro ?_ ?_
  with_reducible refine go_R (by assumption) ?_
  with_reducible intro _
  with_reducible intro _
  with_reducible intro _
  with_reducible intro _
  simp only []
  with_reducible refine And.intro ?_ ?_
  omega
  with_reducible refine And.intro ?_ ?_
  omega
  with_reducible refine And.intro ?_ ?_
  omega
  with_reducible refine sX0_holdsAsSmall (by first | assumption | exact hgc _ _ (by assumption) | exact hgl _ _ (by assumption) | exact isR.ext (by assumption) (by assumption)) ?_
  simp only [eX1_validityIn_13, kx_l, wt_nil, wt_int, tl_s, Nat.add_zero]
  with_reducible intro _
  with_reducible refine And.intro ?_ ?_
  omega
  with_reducible refine And.intro ?_ ?_
  omega
  with_reducible refine And.intro ?_ ?_
  omega
  with_reducible refine sX1_asNumber ?_
  simp only [eX1_validityIn_16, kx_l, tl_s]
  with_reducible intro _
  with_reducible refine And.intro ?_ ?_
  omega
  with_reducible refine And.intro ?_ ?_
  omega
  with_reducible exact hQ _
set_option maxHeartbeats 4000000 in
theorem sX1_neighboursIn {a0 : Nat} {a1 : Int64} {a2 : Int32} (h0 : isR w a0) (hQ : ∀ v : Int32, Q (.inl (some (.int v))) w) : WP (MX1_neighboursIn g) Q (0, [some (.ref a0), some (.long a1), none, some (.int a2)], [], w, 0, 0) := by
  simp only [eX1_neighboursIn_0, wt_nil, Nat.add_zero]
  with_reducible refine And.intro ?_ ?_
  with_reducible refine go_R (by assumption) ?_
  with_reducible intro _
  with_reducible intro _
  with_reducible intro _
  with_reducible intro _
  simp only []
  with_reducible refine And.intro ?_ ?_
  omega
  with_reducible refine And.intro ?_ ?_
  omega
  with_reducible refine And.intro ?_ ?_
  omega
  with_reducible refine sX0_holdsAs (by first | assumption | exact hgc _ _ (by assumption) | exact hgl _ _ (by assumption) | exact isR.ext (by assumption) (by assumption)) ?_
  simp only [eX1_neighboursIn_8, eX1_neighboursIn_11, kx_l, wt_nil, wt_int, tl_s, Nat.add_zero]
  with_reducible intro _
  with_reducible refine And.intro ?_ ?_
  omega
  with_reducible refine And.intro ?_ ?_
  omega
  with_reducible refine And.intro ?_ ?_
  omega
  with_reducible refine sX1_asNumber ?_
  simp only [kx_l, wt_nil, wt_int, tl_s, Nat.add_zero]
  with_reducible intro _
  with_reducible refine And.intro ?_ ?_
  with_reducible refine go_R (by assumption) ?_
  with_reducible intro _
  with_reducible intro _
  with_reducible intro _
  with_reducible intro _
  simp only []
  with_reducible refine And.intro ?_ ?_
  omega
  with_reducible refine And.intro ?_ ?_
  omega
  with_reducible refine And.intro ?_ ?_
  omega
  with_reducible refine sX0_holdsAs (by first | assumption | exact hgc _ _ (by assumption) | exact hgl _ _ (by assumption) | exact isR.ext (by assumption) (by assumption)) ?_
  simp only [eX1_neighboursIn_18, kx_l, wt_nil, wt_int, tl_s, Nat.add_zero]
  with_reducible intro _
  with_reducible refine And.intro ?_ ?_
  omega
  with_reducible refine And.intro ?_ ?_
  omega
  with_reducible refine And.intro ?_ ?_
  omega
  with_reducible refine sX1_asNumber ?_
  simp only [eX1_neighboursIn_21, kx_l, wt_nil, wt_int, tl_s, Nat.add_zero]
  with_reducible intro _
  with_reducible refine And.intro ?_ ?_
  with_reducible refine go_R (by assumption) ?_
  with_reducible intro _
  with_reducible intro _
  with_reducible intro _
  with_reducible intro _
  simp only []
  with_reducible refine And.intro ?_ ?_
  omega
  with_reducible refine And.intro ?_ ?_
  omega
  with_reducible refine And.intro ?_ ?_
  omega
  with_reducible refine sX0_holdsAs (by first | assumption | exact hgc _ _ (by assumption) | exact hgl _ _ (by assumption) | exact isR.ext (by assumption) (by assumption)) ?_
  simp only [eX1_neighboursIn_32, kx_l, wt_nil, wt_int, tl_s, Nat.add_zero]
  with_reducible intro _
  with_reducible refine And.intro ?_ ?_
  omega
  with_reducible refine And.intro ?_ ?_
  omega
  with_reducible refine And.intro ?_ ?_
  omega
  with_reducible refine sX1_asNumber ?_
  simp only [eX1_neighboursIn_35, kx_l, tl_s]
  with_reducible intro _
  with_reducible refine And.intro ?_ ?_
  omega
  with_reducible refine And.intro ?_ ?_
  omega
  with_reducible exact hQ _
end
end
/-! 67.22.class1.lean.txt -/
section
section
variable {g : RO} {Q : Ot → Hw → Prop} {w0 w : Hw} {x nA cA lA : Nat} {kn : Int32}
set_option maxHeartbeats 4000000 in
theorem lX1_holdersOf_6 {a0 : Int64} {a1 : Int32} (hC : CC g w0 x nA cA lA kn w) (hQ : ∀ v : Int32, Q (.inl (some (.int v))) w) : ∀ (n rf md : Int32) (f : Nat → Int64) (gc gl : Nat → Option Nat), RO5 g w x nA cA lA n rf kn md f gc gl → ∀ (d : Nat) (i4 : Int32) (i5 : Int32) (i6 : Option Value) (k m : Nat), ¬ i5 < 0 → (6 : Int32).toInt - i5.toInt ≤ (d : Int) → k ≤ 0 → m ≤ 0 → WP (MX1_holdersOf g) Q (6, [some (.ref x), some (.long a0), none, some (.int a1), some (.int i4), some (.int i5), i6], [], w, k, m) := by
  rintro n rf md f gc gl ⟨hx, hn, hc, hl, hgc, hgl, hn0, hn1, rx, rn, rc, rl, ⟨d1, d2, d3, d4, d5, d6⟩, ⟨d7, d8, d9, d10, d11, d12⟩⟩ d
  induction d with
  | zero =>
    intro i4 i5 i6 k m z0 hm hk hs
    rw [eX1_holdersOf_6]
    simp only [eX1_holdersOf_8, eX1_holdersOf_13, eX1_holdersOf_17, eX1_holdersOf_20, eX1_holdersOf_20N, eX1_holdersOf_22, eX1_holdersOf_22N, eX1_holdersOf_24R, eX1_holdersOf_24N, eX1_holdersOf_27, eX1_holdersOf_46, eX1_holdersOf_52, rx, rc, ite_le, n45, or_false, go_s, gq_s, wt_nil, nl_int, rf_st, g0, gS, ex1, true_and, Nat.add_zero]
    split
    with_reducible refine And.intro ?_ ?_
    with_reducible exact vpi6 (by assumption) (by assumption)
    with_reducible refine And.intro ?_ ?_
    with_reducible exact (ic_z (by assumption) (by assumption)).elim
    with_reducible exact (ic_z (by assumption) (by assumption)).elim
    with_reducible refine And.intro ?_ ?_
    with_reducible assumption
    with_reducible refine And.intro ?_ ?_
    with_reducible assumption
    with_reducible exact hQ _
  | succ d ih =>
    intro i4 i5 i6 k m z0 hm hk hs
    rw [eX1_holdersOf_6]
    simp only [eX1_holdersOf_8, eX1_holdersOf_13, eX1_holdersOf_17, eX1_holdersOf_20, eX1_holdersOf_20N, eX1_holdersOf_22, eX1_holdersOf_22N, eX1_holdersOf_24R, eX1_holdersOf_24N, eX1_holdersOf_27, eX1_holdersOf_46, eX1_holdersOf_52, rx, rc, ite_le, n45, or_false, go_s, gq_s, wt_nil, nl_int, rf_st, g0, gS, ex1, true_and, Nat.add_zero]
    split
    with_reducible refine And.intro ?_ ?_
    with_reducible exact vpi6 (by assumption) (by assumption)
    with_reducible refine And.intro ?_ ?_
    with_reducible intro _
    with_reducible exact ih _ _ _ _ _ (ic_p (by assumption) (by assumption)) (ic_s (by assumption) (by assumption)) (by first | assumption | omega) (by first | assumption | omega)
    with_reducible intro _
    with_reducible intro _
    with_reducible refine And.intro ?_ ?_
    with_reducible refine go_R (by first | assumption | exact hgc _ _ (by assumption) | exact hgl _ _ (by assumption) | exact isR.ext (by assumption) (by assumption)) ?_
    with_reducible intro _
    with_reducible intro _
    with_reducible intro _
    with_reducible intro _
    simp only []
    with_reducible refine And.intro ?_ ?_
    omega
    with_reducible refine And.intro ?_ ?_
    with_reducible assumption
    with_reducible refine And.intro ?_ ?_
    with_reducible assumption
    with_reducible refine sX0_holdsAs (by first | assumption | exact hgc _ _ (by assumption) | exact hgl _ _ (by assumption) | exact isR.ext (by assumption) (by assumption)) ?_
    simp only [eX1_holdersOf_34, eX1_holdersOf_37, eX1_holdersOf_46, kx_l, nl_int, tl_s]
    with_reducible intro _
    split
    with_reducible exact ih _ _ _ _ _ (ic_p (by assumption) (by assumption)) (ic_s (by assumption) (by assumption)) (by first | assumption | omega) (by first | assumption | omega)
    with_reducible exact ih _ _ _ _ _ (ic_p (by assumption) (by assumption)) (ic_s (by assumption) (by assumption)) (by first | assumption | omega) (by first | assumption | omega)
    with_reducible refine And.intro ?_ ?_
    with_reducible assumption
    with_reducible refine And.intro ?_ ?_
    with_reducible assumption
    with_reducible exact hQ _
set_option maxHeartbeats 4000000 in
theorem sX1_holdersOf {a0 : Int64} {a1 : Int32} (hC : CC g w0 x nA cA lA kn w) (hQ : ∀ v : Int32, Q (.inl (some (.int v))) w) : WP (MX1_holdersOf g) Q (0, [some (.ref x), some (.long a0), none, some (.int a1), none, none, none], [], w, 0, 0) := by
  obtain ⟨n, rf, md, f, gc, gl, hx, hn, hc, hl, hgc, hgl, hn0, hn1, rx, rn, rc, rl, ⟨d1, d2, d3, d4, d5, d6⟩, ⟨d7, d8, d9, d10, d11, d12⟩⟩ := hC.1.opn g
  simp only [eX1_holdersOf_0, nl_int]
  with_reducible exact lX1_holdersOf_6 hC hQ _ _ _ _ _ _ ⟨hx, hn, hc, hl, hgc, hgl, hn0, hn1, rx, rn, rc, rl, ⟨d1, d2, d3, d4, d5, d6⟩, ⟨d7, d8, d9, d10, d11, d12⟩⟩ 70 _ _ _ _ _ (by first | decide | assumption) (by first | decide | exact n12 (by assumption) | exact n60 (by assumption)) (by first | decide | omega) (by first | decide | omega)
set_option maxHeartbeats 4000000 in
theorem sX1_isSo {a0 : Nat} {a1 : Int32} (h0 : isR w a0) (k0 : ¬ a1 < 0) (k1 : ¬ 2 < a1) (hQ : ∀ v : Bool, Q (.inl (some (.int (bI v)))) w) : WP (MX1_isSo g) Q (0, [some (.ref a0), some (.int a1)], [], w, 0, 0) := by
  have hQt : Q (.inl (some (.int 1))) w := hQ true
  have hQf : Q (.inl (some (.int 0))) w := hQ false
  rcases i02 k0 k1 with rfl | rfl | rfl
  · simp only [eX1_isSo_0, eX1_isSo_1_0, eX1_isSo_38, nb_1, true_and]
    with_reducible refine And.intro ?_ ?_
    omega
    with_reducible refine And.intro ?_ ?_
    omega
    with_reducible assumption
  · simp only [eX1_isSo_0, eX1_isSo_1_1, eX1_isSo_28, wt_nil, Nat.add_zero]
    with_reducible refine And.intro ?_ ?_
    with_reducible refine go_R (by assumption) ?_
    with_reducible intro _
    with_reducible intro _
    with_reducible intro _
    with_reducible intro _
    simp only []
    with_reducible refine And.intro ?_ ?_
    omega
    with_reducible refine And.intro ?_ ?_
    omega
    with_reducible refine And.intro ?_ ?_
    omega
    with_reducible refine sX0_isSettled (by first | assumption | exact hgc _ _ (by assumption) | exact hgl _ _ (by assumption) | exact isR.ext (by assumption) (by assumption)) ?_
    simp only [eX1_isSo_32, kx_l, tl_s, nb_b, true_and]
    with_reducible intro _
    with_reducible refine And.intro ?_ ?_
    omega
    with_reducible refine And.intro ?_ ?_
    omega
    with_reducible exact hQ _
  · simp only [eX1_isSo_0, eX1_isSo_1_2, eX1_isSo_33, wt_nil, Nat.add_zero]
    with_reducible refine And.intro ?_ ?_
    with_reducible refine go_R (by assumption) ?_
    with_reducible intro _
    with_reducible intro _
    with_reducible intro _
    with_reducible intro _
    simp only []
    with_reducible refine And.intro ?_ ?_
    omega
    with_reducible refine And.intro ?_ ?_
    omega
    with_reducible refine And.intro ?_ ?_
    omega
    with_reducible refine sX0_fitsSmall (by first | assumption | exact hgc _ _ (by assumption) | exact hgl _ _ (by assumption) | exact isR.ext (by assumption) (by assumption)) ?_
    simp only [eX1_isSo_37, kx_l, tl_s, nb_b, true_and]
    with_reducible intro _
    with_reducible refine And.intro ?_ ?_
    omega
    with_reducible refine And.intro ?_ ?_
    omega
    with_reducible exact hQ _
set_option maxHeartbeats 4000000 in
theorem lX1_cardsThatAre_4 {a0 : Int32} (hC : CC g w0 x nA cA lA kn w) (hQ : ∀ v : Int32, Q (.inl (some (.int v))) w) (k0 : ¬ a0 < 0) (k1 : ¬ 2 < a0) : ∀ (n rf md : Int32) (f : Nat → Int64) (gc gl : Nat → Option Nat), RO5 g w x nA cA lA n rf kn md f gc gl → ∀ (d : Nat) (i2 : Int32) (i3 : Int32) (i4 : Option Value) (k m : Nat), ¬ i3 < 0 → (6 : Int32).toInt - i3.toInt ≤ (d : Int) → k ≤ 0 → m ≤ 0 → WP (MX1_cardsThatAre g) Q (4, [some (.ref x), some (.int a0), some (.int i2), some (.int i3), i4], [], w, k, m) := by
  rintro n rf md f gc gl ⟨hx, hn, hc, hl, hgc, hgl, hn0, hn1, rx, rn, rc, rl, ⟨d1, d2, d3, d4, d5, d6⟩, ⟨d7, d8, d9, d10, d11, d12⟩⟩ d
  induction d with
  | zero =>
    intro i2 i3 i4 k m z0 hm hk hs
    rw [eX1_cardsThatAre_4]
    simp only [eX1_cardsThatAre_5, eX1_cardsThatAre_10, eX1_cardsThatAre_14, eX1_cardsThatAre_16, eX1_cardsThatAre_16N, eX1_cardsThatAre_18, eX1_cardsThatAre_18N, eX1_cardsThatAre_20R, eX1_cardsThatAre_20N, eX1_cardsThatAre_23, eX1_cardsThatAre_38, eX1_cardsThatAre_44, rx, rc, ite_le, n45, or_false, go_s, gq_s, wt_nil, nl_int, rf_st, g0, gS, ex1, true_and, Nat.add_zero]
    split
    with_reducible refine And.intro ?_ ?_
    with_reducible exact vpi6 (by assumption) (by assumption)
    with_reducible refine And.intro ?_ ?_
    with_reducible exact (ic_z (by assumption) (by assumption)).elim
    with_reducible exact (ic_z (by assumption) (by assumption)).elim
    with_reducible refine And.intro ?_ ?_
    with_reducible assumption
    with_reducible refine And.intro ?_ ?_
    with_reducible assumption
    with_reducible exact hQ _
  | succ d ih =>
    intro i2 i3 i4 k m z0 hm hk hs
    rw [eX1_cardsThatAre_4]
    simp only [eX1_cardsThatAre_5, eX1_cardsThatAre_10, eX1_cardsThatAre_14, eX1_cardsThatAre_16, eX1_cardsThatAre_16N, eX1_cardsThatAre_18, eX1_cardsThatAre_18N, eX1_cardsThatAre_20R, eX1_cardsThatAre_20N, eX1_cardsThatAre_23, eX1_cardsThatAre_38, eX1_cardsThatAre_44, rx, rc, ite_le, n45, or_false, go_s, gq_s, wt_nil, nl_int, rf_st, g0, gS, ex1, true_and, Nat.add_zero]
    split
    with_reducible refine And.intro ?_ ?_
    with_reducible exact vpi6 (by assumption) (by assumption)
    with_reducible refine And.intro ?_ ?_
    with_reducible intro _
    with_reducible exact ih _ _ _ _ _ (ic_p (by assumption) (by assumption)) (ic_s (by assumption) (by assumption)) (by first | assumption | omega) (by first | assumption | omega)
    with_reducible intro _
    with_reducible intro _
    with_reducible refine And.intro ?_ ?_
    omega
    with_reducible refine And.intro ?_ ?_
    with_reducible assumption
    with_reducible refine And.intro ?_ ?_
    with_reducible assumption
    with_reducible refine sX1_isSo (by first | assumption | exact hgc _ _ (by assumption) | exact hgl _ _ (by assumption) | exact isR.ext (by assumption) (by assumption)) (by assumption) (by assumption) ?_
    simp only [eX1_cardsThatAre_29, eX1_cardsThatAre_32, eX1_cardsThatAre_38, kx_l, nl_int, tl_s]
    with_reducible intro _
    split
    with_reducible exact ih _ _ _ _ _ (ic_p (by assumption) (by assumption)) (ic_s (by assumption) (by assumption)) (by first | assumption | omega) (by first | assumption | omega)
    with_reducible exact ih _ _ _ _ _ (ic_p (by assumption) (by assumption)) (ic_s (by assumption) (by assumption)) (by first | assumption | omega) (by first | assumption | omega)
    with_reducible refine And.intro ?_ ?_
    with_reducible assumption
    with_reducible refine And.intro ?_ ?_
    with_reducible assumption
    with_reducible exact hQ _
set_option maxHeartbeats 4000000 in
theorem sX1_cardsThatAre {a0 : Int32} (hC : CC g w0 x nA cA lA kn w) (hQ : ∀ v : Int32, Q (.inl (some (.int v))) w) (k0 : ¬ a0 < 0) (k1 : ¬ 2 < a0) : WP (MX1_cardsThatAre g) Q (0, [some (.ref x), some (.int a0), none, none, none], [], w, 0, 0) := by
  obtain ⟨n, rf, md, f, gc, gl, hx, hn, hc, hl, hgc, hgl, hn0, hn1, rx, rn, rc, rl, ⟨d1, d2, d3, d4, d5, d6⟩, ⟨d7, d8, d9, d10, d11, d12⟩⟩ := hC.1.opn g
  simp only [eX1_cardsThatAre_0, nl_int]
  with_reducible exact lX1_cardsThatAre_4 hC hQ k0 k1 _ _ _ _ _ _ ⟨hx, hn, hc, hl, hgc, hgl, hn0, hn1, rx, rn, rc, rl, ⟨d1, d2, d3, d4, d5, d6⟩, ⟨d7, d8, d9, d10, d11, d12⟩⟩ 70 _ _ _ _ _ (by first | decide | assumption) (by first | decide | exact n12 (by assumption) | exact n60 (by assumption)) (by first | decide | omega) (by first | decide | omega)
end
end
/-! 67.22.class2.lean.txt -/
section
section
variable {g : RO} {Q : Ot → Hw → Prop} {w0 w : Hw} {x nA cA lA : Nat} {kn : Int32}
set_option maxHeartbeats 4000000 in
theorem lX1_cardsLike_4 {a0 : Nat} (hC : CC g w0 x nA cA lA kn w) (h0 : isR w a0) (hQ : ∀ v : Int32, Q (.inl (some (.int v))) w) : ∀ (n rf md : Int32) (f : Nat → Int64) (gc gl : Nat → Option Nat), RO5 g w x nA cA lA n rf kn md f gc gl → ∀ (d : Nat) (i2 : Int32) (i3 : Int32) (i4 : Option Value) (k m : Nat), ¬ i3 < 0 → (6 : Int32).toInt - i3.toInt ≤ (d : Int) → k ≤ 0 → m ≤ 0 → WP (MX1_cardsLike g) Q (4, [some (.ref x), some (.ref a0), some (.int i2), some (.int i3), i4], [], w, k, m) := by
  rintro n rf md f gc gl ⟨hx, hn, hc, hl, hgc, hgl, hn0, hn1, rx, rn, rc, rl, ⟨d1, d2, d3, d4, d5, d6⟩, ⟨d7, d8, d9, d10, d11, d12⟩⟩ d
  induction d with
  | zero =>
    intro i2 i3 i4 k m z0 hm hk hs
    rw [eX1_cardsLike_4]
    simp only [eX1_cardsLike_5, eX1_cardsLike_10, eX1_cardsLike_14, eX1_cardsLike_16, eX1_cardsLike_16N, eX1_cardsLike_18, eX1_cardsLike_18N, eX1_cardsLike_20R, eX1_cardsLike_20N, eX1_cardsLike_23, eX1_cardsLike_51, eX1_cardsLike_57, rx, rc, ite_le, n45, or_false, go_s, gq_s, wt_nil, nl_int, rf_st, g0, gS, ex1, true_and, Nat.add_zero]
    split
    with_reducible refine And.intro ?_ ?_
    with_reducible exact vpi6 (by assumption) (by assumption)
    with_reducible refine And.intro ?_ ?_
    with_reducible exact (ic_z (by assumption) (by assumption)).elim
    with_reducible exact (ic_z (by assumption) (by assumption)).elim
    with_reducible refine And.intro ?_ ?_
    with_reducible assumption
    with_reducible refine And.intro ?_ ?_
    with_reducible assumption
    with_reducible exact hQ _
  | succ d ih =>
    intro i2 i3 i4 k m z0 hm hk hs
    rw [eX1_cardsLike_4]
    simp only [eX1_cardsLike_5, eX1_cardsLike_10, eX1_cardsLike_14, eX1_cardsLike_16, eX1_cardsLike_16N, eX1_cardsLike_18, eX1_cardsLike_18N, eX1_cardsLike_20R, eX1_cardsLike_20N, eX1_cardsLike_23, eX1_cardsLike_51, eX1_cardsLike_57, rx, rc, ite_le, n45, or_false, go_s, gq_s, wt_nil, nl_int, rf_st, g0, gS, ex1, true_and, Nat.add_zero]
    split
    with_reducible refine And.intro ?_ ?_
    with_reducible exact vpi6 (by assumption) (by assumption)
    with_reducible refine And.intro ?_ ?_
    with_reducible intro _
    with_reducible exact ih _ _ _ _ _ (ic_p (by assumption) (by assumption)) (ic_s (by assumption) (by assumption)) (by first | assumption | omega) (by first | assumption | omega)
    with_reducible intro _
    with_reducible intro _
    with_reducible refine And.intro ?_ ?_
    with_reducible refine go_R (by first | assumption | exact hgc _ _ (by assumption) | exact hgl _ _ (by assumption) | exact isR.ext (by assumption) (by assumption)) ?_
    with_reducible intro _
    with_reducible intro _
    with_reducible intro _
    with_reducible intro _
    simp only []
    with_reducible refine And.intro ?_ ?_
    omega
    with_reducible refine And.intro ?_ ?_
    with_reducible assumption
    with_reducible refine And.intro ?_ ?_
    with_reducible assumption
    with_reducible refine sX0_matchesR (by first | assumption | exact hgc _ _ (by assumption) | exact hgl _ _ (by assumption) | exact isR.ext (by assumption) (by assumption)) (by first | assumption | exact hgc _ _ (by assumption) | exact hgl _ _ (by assumption) | exact isR.ext (by assumption) (by assumption)) ?_
    simp only [eX1_cardsLike_29, eX1_cardsLike_32, eX1_cardsLike_36, eX1_cardsLike_51, kx_l, wt_nil, nl_int, tl_s, Nat.add_zero]
    with_reducible intro _
    split
    with_reducible exact ih _ _ _ _ _ (ic_p (by assumption) (by assumption)) (ic_s (by assumption) (by assumption)) (by first | assumption | omega) (by first | assumption | omega)
    with_reducible refine And.intro ?_ ?_
    with_reducible refine go_R (by first | assumption | exact hgc _ _ (by assumption) | exact hgl _ _ (by assumption) | exact isR.ext (by assumption) (by assumption)) ?_
    with_reducible intro _
    with_reducible intro _
    with_reducible intro _
    with_reducible intro _
    simp only []
    with_reducible refine And.intro ?_ ?_
    omega
    with_reducible refine And.intro ?_ ?_
    with_reducible assumption
    with_reducible refine And.intro ?_ ?_
    with_reducible assumption
    with_reducible refine sX0_hash (by first | assumption | exact hgc _ _ (by assumption) | exact hgl _ _ (by assumption) | exact isR.ext (by assumption) (by assumption)) ?_
    simp only [kx_l, wt_nil, wt_long, tl_s, Nat.add_zero]
    with_reducible intro _
    with_reducible refine And.intro ?_ ?_
    with_reducible refine go_R (by first | assumption | exact hgc _ _ (by assumption) | exact hgl _ _ (by assumption) | exact isR.ext (by assumption) (by assumption)) ?_
    with_reducible intro _
    with_reducible intro _
    with_reducible intro _
    with_reducible intro _
    simp only []
    with_reducible refine And.intro ?_ ?_
    omega
    with_reducible refine And.intro ?_ ?_
    with_reducible assumption
    with_reducible refine And.intro ?_ ?_
    with_reducible assumption
    with_reducible refine sX0_hash (by first | assumption | exact hgc _ _ (by assumption) | exact hgl _ _ (by assumption) | exact isR.ext (by assumption) (by assumption)) ?_
    simp only [eX1_cardsLike_41, eX1_cardsLike_45, eX1_cardsLike_51, kx_l, nl_int, nl_ref, tl_s]
    with_reducible intro _
    split
    with_reducible exact ih _ _ _ _ _ (ic_p (by assumption) (by assumption)) (ic_s (by assumption) (by assumption)) (by first | assumption | omega) (by first | assumption | omega)
    with_reducible exact ih _ _ _ _ _ (ic_p (by assumption) (by assumption)) (ic_s (by assumption) (by assumption)) (by first | assumption | omega) (by first | assumption | omega)
    with_reducible refine And.intro ?_ ?_
    with_reducible assumption
    with_reducible refine And.intro ?_ ?_
    with_reducible assumption
    with_reducible exact hQ _
set_option maxHeartbeats 4000000 in
theorem sX1_cardsLike {a0 : Nat} (hC : CC g w0 x nA cA lA kn w) (h0 : isR w a0) (hQ : ∀ v : Int32, Q (.inl (some (.int v))) w) : WP (MX1_cardsLike g) Q (0, [some (.ref x), some (.ref a0), none, none, none], [], w, 0, 0) := by
  obtain ⟨n, rf, md, f, gc, gl, hx, hn, hc, hl, hgc, hgl, hn0, hn1, rx, rn, rc, rl, ⟨d1, d2, d3, d4, d5, d6⟩, ⟨d7, d8, d9, d10, d11, d12⟩⟩ := hC.1.opn g
  simp only [eX1_cardsLike_0, nl_int, nl_ref]
  with_reducible exact lX1_cardsLike_4 hC h0 hQ _ _ _ _ _ _ ⟨hx, hn, hc, hl, hgc, hgl, hn0, hn1, rx, rn, rc, rl, ⟨d1, d2, d3, d4, d5, d6⟩, ⟨d7, d8, d9, d10, d11, d12⟩⟩ 70 _ _ _ _ _ (by first | decide | assumption) (by first | decide | exact n12 (by assumption) | exact n60 (by assumption)) (by first | decide | omega) (by first | decide | omega)
set_option maxHeartbeats 4000000 in
theorem lX1_cardsWithRange_4  (hC : CC g w0 x nA cA lA kn w) (hQ : ∀ v : Int32, Q (.inl (some (.int v))) w) : ∀ (n rf md : Int32) (f : Nat → Int64) (gc gl : Nat → Option Nat), RO5 g w x nA cA lA n rf kn md f gc gl → ∀ (d : Nat) (i1 : Int32) (i2 : Int32) (k m : Nat), ¬ i2 < 0 → (6 : Int32).toInt - i2.toInt ≤ (d : Int) → k ≤ 0 → m ≤ 0 → WP (MX1_cardsWithRange g) Q (4, [some (.ref x), some (.int i1), some (.int i2)], [], w, k, m) := by
  rintro n rf md f gc gl ⟨hx, hn, hc, hl, hgc, hgl, hn0, hn1, rx, rn, rc, rl, ⟨d1, d2, d3, d4, d5, d6⟩, ⟨d7, d8, d9, d10, d11, d12⟩⟩ d
  induction d with
  | zero =>
    intro i1 i2 k m z0 hm hk hs
    rw [eX1_cardsWithRange_4]
    simp only [eX1_cardsWithRange_5, eX1_cardsWithRange_10, eX1_cardsWithRange_15, eX1_cardsWithRange_17R, eX1_cardsWithRange_17N, eX1_cardsWithRange_20, eX1_cardsWithRange_24, eX1_cardsWithRange_25, eX1_cardsWithRange_36, rx, rc, ite_le, n45, or_false, go_s, gq_s, wt_nil, wt_int, rf_st, g0, gS, ex1, true_and, Nat.add_zero]
    split
    with_reducible refine And.intro ?_ ?_
    with_reducible exact vpi6 (by assumption) (by assumption)
    with_reducible refine And.intro ?_ ?_
    with_reducible exact (ic_z (by assumption) (by assumption)).elim
    with_reducible exact (ic_z (by assumption) (by assumption)).elim
    with_reducible refine And.intro ?_ ?_
    with_reducible assumption
    with_reducible refine And.intro ?_ ?_
    with_reducible assumption
    with_reducible exact hQ _
  | succ d ih =>
    intro i1 i2 k m z0 hm hk hs
    rw [eX1_cardsWithRange_4]
    simp only [eX1_cardsWithRange_5, eX1_cardsWithRange_10, eX1_cardsWithRange_15, eX1_cardsWithRange_17R, eX1_cardsWithRange_17N, eX1_cardsWithRange_20, eX1_cardsWithRange_24, eX1_cardsWithRange_25, eX1_cardsWithRange_36, rx, rc, ite_le, n45, or_false, go_s, gq_s, wt_nil, wt_int, rf_st, g0, gS, ex1, true_and, Nat.add_zero]
    split
    with_reducible refine And.intro ?_ ?_
    with_reducible exact vpi6 (by assumption) (by assumption)
    with_reducible refine And.intro ?_ ?_
    with_reducible intro _
    with_reducible refine And.intro ?_ ?_
    omega
    with_reducible refine And.intro ?_ ?_
    with_reducible assumption
    with_reducible refine And.intro ?_ ?_
    with_reducible assumption
    with_reducible refine sX1_asNumber ?_
    simp only [eX1_cardsWithRange_28, kx_l, nl_int, nl_ref, tl_s]
    with_reducible intro _
    with_reducible exact ih _ _ _ _ (ic_p (by assumption) (by assumption)) (ic_s (by assumption) (by assumption)) (by first | assumption | omega) (by first | assumption | omega)
    with_reducible intro _
    with_reducible intro _
    with_reducible refine And.intro ?_ ?_
    omega
    with_reducible refine And.intro ?_ ?_
    with_reducible assumption
    with_reducible refine And.intro ?_ ?_
    with_reducible assumption
    with_reducible refine sX1_asNumber ?_
    simp only [eX1_cardsWithRange_28, kx_l, nl_int, nl_ref, tl_s]
    with_reducible intro _
    with_reducible exact ih _ _ _ _ (ic_p (by assumption) (by assumption)) (ic_s (by assumption) (by assumption)) (by first | assumption | omega) (by first | assumption | omega)
    with_reducible refine And.intro ?_ ?_
    with_reducible assumption
    with_reducible refine And.intro ?_ ?_
    with_reducible assumption
    with_reducible exact hQ _
set_option maxHeartbeats 4000000 in
theorem sX1_cardsWithRange  (hC : CC g w0 x nA cA lA kn w) (hQ : ∀ v : Int32, Q (.inl (some (.int v))) w) : WP (MX1_cardsWithRange g) Q (0, [some (.ref x), none, none], [], w, 0, 0) := by
  obtain ⟨n, rf, md, f, gc, gl, hx, hn, hc, hl, hgc, hgl, hn0, hn1, rx, rn, rc, rl, ⟨d1, d2, d3, d4, d5, d6⟩, ⟨d7, d8, d9, d10, d11, d12⟩⟩ := hC.1.opn g
  simp only [eX1_cardsWithRange_0, nl_int, nl_ref]
  with_reducible exact lX1_cardsWithRange_4 hC hQ _ _ _ _ _ _ ⟨hx, hn, hc, hl, hgc, hgl, hn0, hn1, rx, rn, rc, rl, ⟨d1, d2, d3, d4, d5, d6⟩, ⟨d7, d8, d9, d10, d11, d12⟩⟩ 70 _ _ _ _ (by first | decide | assumption) (by first | decide | exact n12 (by assumption) | exact n60 (by assumption)) (by first | decide | omega) (by first | decide | omega)
set_option maxHeartbeats 4000000 in
theorem lX1_firstPlaceOf_2 {a0 : Nat} (hC : CC g w0 x nA cA lA kn w) (h0 : isR w a0) (hQ : ∀ v : Int32, Q (.inl (some (.int v))) w) : ∀ (n rf md : Int32) (f : Nat → Int64) (gc gl : Nat → Option Nat), RO5 g w x nA cA lA n rf kn md f gc gl → ∀ (d : Nat) (i2 : Int32) (k m : Nat), ¬ i2 < 0 → (n : Int32).toInt - i2.toInt ≤ (d : Int) → k ≤ 0 → m ≤ 0 → WP (MX1_firstPlaceOf g) Q (2, [some (.ref x), some (.ref a0), some (.int i2)], [], w, k, m) := by
  rintro n rf md f gc gl ⟨hx, hn, hc, hl, hgc, hgl, hn0, hn1, rx, rn, rc, rl, ⟨d1, d2, d3, d4, d5, d6⟩, ⟨d7, d8, d9, d10, d11, d12⟩⟩ d
  induction d with
  | zero =>
    intro i2 k m z0 hm hk hs
    rw [eX1_firstPlaceOf_2]
    simp only [eX1_firstPlaceOf_3, eX1_firstPlaceOf_7, eX1_firstPlaceOf_10, eX1_firstPlaceOf_15, eX1_firstPlaceOf_17R, eX1_firstPlaceOf_17N, eX1_firstPlaceOf_31, rx, rl, ite_le, n45, or_false, go_s, gq_s, wt_nil, rf_st, g0, gS, ex1, true_and, Nat.add_zero]
    split
    with_reducible refine And.intro ?_ ?_
    with_reducible exact (ic_z (by assumption) (by assumption)).elim
    with_reducible refine And.intro ?_ ?_
    with_reducible exact (ic_z (by assumption) (by assumption)).elim
    with_reducible exact (ic_z (by assumption) (by assumption)).elim
    with_reducible refine And.intro ?_ ?_
    with_reducible assumption
    with_reducible refine And.intro ?_ ?_
    with_reducible assumption
    with_reducible exact hQ _
  | succ d ih =>
    intro i2 k m z0 hm hk hs
    rw [eX1_firstPlaceOf_2]
    simp only [eX1_firstPlaceOf_3, eX1_firstPlaceOf_7, eX1_firstPlaceOf_10, eX1_firstPlaceOf_15, eX1_firstPlaceOf_17R, eX1_firstPlaceOf_17N, eX1_firstPlaceOf_31, rx, rl, ite_le, n45, or_false, go_s, gq_s, wt_nil, rf_st, g0, gS, ex1, true_and, Nat.add_zero]
    split
    with_reducible refine And.intro ?_ ?_
    with_reducible exact vpi12 (by assumption) (by assumption) (by assumption)
    with_reducible refine And.intro ?_ ?_
    with_reducible intro _
    with_reducible refine And.intro ?_ ?_
    with_reducible refine go_R (by first | assumption | exact hgc _ _ (by assumption) | exact hgl _ _ (by assumption) | exact isR.ext (by assumption) (by assumption)) ?_
    with_reducible intro _
    with_reducible intro _
    with_reducible intro _
    with_reducible intro _
    simp only []
    with_reducible refine And.intro ?_ ?_
    omega
    with_reducible refine And.intro ?_ ?_
    with_reducible assumption
    with_reducible refine And.intro ?_ ?_
    with_reducible assumption
    with_reducible refine sX0_matchesN (by first | assumption | exact hgc _ _ (by assumption) | exact hgl _ _ (by assumption) | exact isR.ext (by assumption) (by assumption)) ?_
    simp only [eX1_firstPlaceOf_20, eX1_firstPlaceOf_23, eX1_firstPlaceOf_25, kx_l, nl_ref, tl_s]
    with_reducible intro _
    split
    with_reducible exact ih _ _ _ (ic_p (by assumption) (by assumption)) (ic_s (by assumption) (by assumption)) (by first | assumption | omega) (by first | assumption | omega)
    with_reducible refine And.intro ?_ ?_
    with_reducible assumption
    with_reducible refine And.intro ?_ ?_
    with_reducible assumption
    with_reducible exact hQ _
    with_reducible intro _
    with_reducible intro _
    with_reducible refine And.intro ?_ ?_
    with_reducible refine go_R (by first | assumption | exact hgc _ _ (by assumption) | exact hgl _ _ (by assumption) | exact isR.ext (by assumption) (by assumption)) ?_
    with_reducible intro _
    with_reducible intro _
    with_reducible intro _
    with_reducible intro _
    simp only []
    with_reducible refine And.intro ?_ ?_
    omega
    with_reducible refine And.intro ?_ ?_
    with_reducible assumption
    with_reducible refine And.intro ?_ ?_
    with_reducible assumption
    with_reducible refine sX0_matchesR (by first | assumption | exact hgc _ _ (by assumption) | exact hgl _ _ (by assumption) | exact isR.ext (by assumption) (by assumption)) (by first | assumption | exact hgc _ _ (by assumption) | exact hgl _ _ (by assumption) | exact isR.ext (by assumption) (by assumption)) ?_
    simp only [eX1_firstPlaceOf_20, eX1_firstPlaceOf_23, eX1_firstPlaceOf_25, kx_l, nl_ref, tl_s]
    with_reducible intro _
    split
    with_reducible exact ih _ _ _ (ic_p (by assumption) (by assumption)) (ic_s (by assumption) (by assumption)) (by first | assumption | omega) (by first | assumption | omega)
    with_reducible refine And.intro ?_ ?_
    with_reducible assumption
    with_reducible refine And.intro ?_ ?_
    with_reducible assumption
    with_reducible exact hQ _
    with_reducible refine And.intro ?_ ?_
    with_reducible assumption
    with_reducible refine And.intro ?_ ?_
    with_reducible assumption
    with_reducible exact hQ _
set_option maxHeartbeats 4000000 in
theorem sX1_firstPlaceOf {a0 : Nat} (hC : CC g w0 x nA cA lA kn w) (h0 : isR w a0) (hQ : ∀ v : Int32, Q (.inl (some (.int v))) w) : WP (MX1_firstPlaceOf g) Q (0, [some (.ref x), some (.ref a0), none], [], w, 0, 0) := by
  obtain ⟨n, rf, md, f, gc, gl, hx, hn, hc, hl, hgc, hgl, hn0, hn1, rx, rn, rc, rl, ⟨d1, d2, d3, d4, d5, d6⟩, ⟨d7, d8, d9, d10, d11, d12⟩⟩ := hC.1.opn g
  simp only [eX1_firstPlaceOf_0, nl_ref]
  with_reducible exact lX1_firstPlaceOf_2 hC h0 hQ _ _ _ _ _ _ ⟨hx, hn, hc, hl, hgc, hgl, hn0, hn1, rx, rn, rc, rl, ⟨d1, d2, d3, d4, d5, d6⟩, ⟨d7, d8, d9, d10, d11, d12⟩⟩ 70 _ _ _ (by first | decide | assumption) (by first | decide | exact n12 (by assumption) | exact n60 (by assumption)) (by first | decide | omega) (by first | decide | omega)
set_option maxHeartbeats 4000000 in
theorem lX1_lastPlaceOf_7 {a0 : Nat} (hC : CC g w0 x nA cA lA kn w) (h0 : isR w a0) (hQ : ∀ v : Int32, Q (.inl (some (.int v))) w) : ∀ (n rf md : Int32) (f : Nat → Int64) (gc gl : Nat → Option Nat), RO5 g w x nA cA lA n rf kn md f gc gl → ∀ (d : Nat) (i2 : Int32) (k m : Nat), i2 < n → i2.toInt + 1 ≤ (d : Int) → k ≤ 0 → m ≤ 0 → WP (MX1_lastPlaceOf g) Q (7, [some (.ref x), some (.ref a0), some (.int i2)], [], w, k, m) := by
  rintro n rf md f gc gl ⟨hx, hn, hc, hl, hgc, hgl, hn0, hn1, rx, rn, rc, rl, ⟨d1, d2, d3, d4, d5, d6⟩, ⟨d7, d8, d9, d10, d11, d12⟩⟩ d
  induction d with
  | zero =>
    intro i2 k m k0 hm hk hs
    rw [eX1_lastPlaceOf_7]
    simp only [eX1_lastPlaceOf_8, eX1_lastPlaceOf_11, eX1_lastPlaceOf_16, eX1_lastPlaceOf_18R, eX1_lastPlaceOf_18N, eX1_lastPlaceOf_32, rx, rl, n45, or_false, go_s, gq_s, wt_nil, rf_st, g0, gS, ex1, true_and, Nat.add_zero]
    split
    with_reducible refine And.intro ?_ ?_
    with_reducible assumption
    with_reducible refine And.intro ?_ ?_
    with_reducible assumption
    with_reducible exact hQ _
    with_reducible refine And.intro ?_ ?_
    with_reducible exact (id_z (by assumption) (by assumption)).elim
    with_reducible refine And.intro ?_ ?_
    with_reducible exact (id_z (by assumption) (by assumption)).elim
    with_reducible exact (id_z (by assumption) (by assumption)).elim
  | succ d ih =>
    intro i2 k m k0 hm hk hs
    rw [eX1_lastPlaceOf_7]
    simp only [eX1_lastPlaceOf_8, eX1_lastPlaceOf_11, eX1_lastPlaceOf_16, eX1_lastPlaceOf_18R, eX1_lastPlaceOf_18N, eX1_lastPlaceOf_32, rx, rl, n45, or_false, go_s, gq_s, wt_nil, rf_st, g0, gS, ex1, true_and, Nat.add_zero]
    split
    with_reducible refine And.intro ?_ ?_
    with_reducible assumption
    with_reducible refine And.intro ?_ ?_
    with_reducible assumption
    with_reducible exact hQ _
    with_reducible refine And.intro ?_ ?_
    with_reducible exact vpi12 (by assumption) (by assumption) (by assumption)
    with_reducible refine And.intro ?_ ?_
    with_reducible intro _
    with_reducible refine And.intro ?_ ?_
    with_reducible refine go_R (by first | assumption | exact hgc _ _ (by assumption) | exact hgl _ _ (by assumption) | exact isR.ext (by assumption) (by assumption)) ?_
    with_reducible intro _
    with_reducible intro _
    with_reducible intro _
    with_reducible intro _
    simp only []
    with_reducible refine And.intro ?_ ?_
    omega
    with_reducible refine And.intro ?_ ?_
    with_reducible assumption
    with_reducible refine And.intro ?_ ?_
    with_reducible assumption
    with_reducible refine sX0_matchesN (by first | assumption | exact hgc _ _ (by assumption) | exact hgl _ _ (by assumption) | exact isR.ext (by assumption) (by assumption)) ?_
    simp only [eX1_lastPlaceOf_21, eX1_lastPlaceOf_24, eX1_lastPlaceOf_26, kx_l, nl_ref, tl_s]
    with_reducible intro _
    split
    with_reducible exact ih _ _ _ (id_p (by assumption) (by assumption)) (id_s (by assumption) (by assumption)) (by first | assumption | omega) (by first | assumption | omega)
    with_reducible refine And.intro ?_ ?_
    with_reducible assumption
    with_reducible refine And.intro ?_ ?_
    with_reducible assumption
    with_reducible exact hQ _
    with_reducible intro _
    with_reducible intro _
    with_reducible refine And.intro ?_ ?_
    with_reducible refine go_R (by first | assumption | exact hgc _ _ (by assumption) | exact hgl _ _ (by assumption) | exact isR.ext (by assumption) (by assumption)) ?_
    with_reducible intro _
    with_reducible intro _
    with_reducible intro _
    with_reducible intro _
    simp only []
    with_reducible refine And.intro ?_ ?_
    omega
    with_reducible refine And.intro ?_ ?_
    with_reducible assumption
    with_reducible refine And.intro ?_ ?_
    with_reducible assumption
    with_reducible refine sX0_matchesR (by first | assumption | exact hgc _ _ (by assumption) | exact hgl _ _ (by assumption) | exact isR.ext (by assumption) (by assumption)) (by first | assumption | exact hgc _ _ (by assumption) | exact hgl _ _ (by assumption) | exact isR.ext (by assumption) (by assumption)) ?_
    simp only [eX1_lastPlaceOf_21, eX1_lastPlaceOf_24, eX1_lastPlaceOf_26, kx_l, nl_ref, tl_s]
    with_reducible intro _
    split
    with_reducible exact ih _ _ _ (id_p (by assumption) (by assumption)) (id_s (by assumption) (by assumption)) (by first | assumption | omega) (by first | assumption | omega)
    with_reducible refine And.intro ?_ ?_
    with_reducible assumption
    with_reducible refine And.intro ?_ ?_
    with_reducible assumption
    with_reducible exact hQ _
set_option maxHeartbeats 4000000 in
theorem sX1_lastPlaceOf {a0 : Nat} (hC : CC g w0 x nA cA lA kn w) (h0 : isR w a0) (hQ : ∀ v : Int32, Q (.inl (some (.int v))) w) : WP (MX1_lastPlaceOf g) Q (0, [some (.ref x), some (.ref a0), none], [], w, 0, 0) := by
  obtain ⟨n, rf, md, f, gc, gl, hx, hn, hc, hl, hgc, hgl, hn0, hn1, rx, rn, rc, rl, ⟨d1, d2, d3, d4, d5, d6⟩, ⟨d7, d8, d9, d10, d11, d12⟩⟩ := hC.1.opn g
  simp only [eX1_lastPlaceOf_0, eX1_lastPlaceOf_4, rx, go_s, nl_ref, g0, gS, ex1]
  with_reducible exact lX1_lastPlaceOf_7 hC h0 hQ _ _ _ _ _ _ ⟨hx, hn, hc, hl, hgc, hgl, hn0, hn1, rx, rn, rc, rl, ⟨d1, d2, d3, d4, d5, d6⟩, ⟨d7, d8, d9, d10, d11, d12⟩⟩ 70 _ _ _ (id_e (by assumption) (by assumption)) (id_m (by assumption) (by assumption)) (by first | decide | omega) (by first | decide | omega)
set_option maxHeartbeats 4000000 in
theorem lX1_timesLaid_4 {a0 : Nat} (hC : CC g w0 x nA cA lA kn w) (h0 : isR w a0) (hQ : ∀ v : Int32, Q (.inl (some (.int v))) w) : ∀ (n rf md : Int32) (f : Nat → Int64) (gc gl : Nat → Option Nat), RO5 g w x nA cA lA n rf kn md f gc gl → ∀ (d : Nat) (i2 : Int32) (i3 : Int32) (k m : Nat), ¬ i3 < 0 → (n : Int32).toInt - i3.toInt ≤ (d : Int) → k ≤ 0 → m ≤ 0 → WP (MX1_timesLaid g) Q (4, [some (.ref x), some (.ref a0), some (.int i2), some (.int i3)], [], w, k, m) := by
  rintro n rf md f gc gl ⟨hx, hn, hc, hl, hgc, hgl, hn0, hn1, rx, rn, rc, rl, ⟨d1, d2, d3, d4, d5, d6⟩, ⟨d7, d8, d9, d10, d11, d12⟩⟩ d
  induction d with
  | zero =>
    intro i2 i3 k m z0 hm hk hs
    rw [eX1_timesLaid_4]
    simp only [eX1_timesLaid_5, eX1_timesLaid_9, eX1_timesLaid_12, eX1_timesLaid_18, eX1_timesLaid_20R, eX1_timesLaid_20N, eX1_timesLaid_34, rx, rl, ite_le, n45, or_false, go_s, gq_s, wt_nil, wt_int, rf_st, g0, gS, ex1, true_and, Nat.add_zero]
    split
    with_reducible refine And.intro ?_ ?_
    with_reducible exact (ic_z (by assumption) (by assumption)).elim
    with_reducible refine And.intro ?_ ?_
    with_reducible exact (ic_z (by assumption) (by assumption)).elim
    with_reducible exact (ic_z (by assumption) (by assumption)).elim
    with_reducible refine And.intro ?_ ?_
    with_reducible assumption
    with_reducible refine And.intro ?_ ?_
    with_reducible assumption
    with_reducible exact hQ _
  | succ d ih =>
    intro i2 i3 k m z0 hm hk hs
    rw [eX1_timesLaid_4]
    simp only [eX1_timesLaid_5, eX1_timesLaid_9, eX1_timesLaid_12, eX1_timesLaid_18, eX1_timesLaid_20R, eX1_timesLaid_20N, eX1_timesLaid_34, rx, rl, ite_le, n45, or_false, go_s, gq_s, wt_nil, wt_int, rf_st, g0, gS, ex1, true_and, Nat.add_zero]
    split
    with_reducible refine And.intro ?_ ?_
    with_reducible exact vpi12 (by assumption) (by assumption) (by assumption)
    with_reducible refine And.intro ?_ ?_
    with_reducible intro _
    with_reducible refine And.intro ?_ ?_
    with_reducible refine go_R (by first | assumption | exact hgc _ _ (by assumption) | exact hgl _ _ (by assumption) | exact isR.ext (by assumption) (by assumption)) ?_
    with_reducible intro _
    with_reducible intro _
    with_reducible intro _
    with_reducible intro _
    simp only []
    with_reducible refine And.intro ?_ ?_
    omega
    with_reducible refine And.intro ?_ ?_
    with_reducible assumption
    with_reducible refine And.intro ?_ ?_
    with_reducible assumption
    with_reducible refine sX0_matchesN (by first | assumption | exact hgc _ _ (by assumption) | exact hgl _ _ (by assumption) | exact isR.ext (by assumption) (by assumption)) ?_
    simp only [eX1_timesLaid_23, kx_l, wt_nil, wt_int, tl_s, Nat.add_zero]
    with_reducible intro _
    with_reducible refine And.intro ?_ ?_
    omega
    with_reducible refine And.intro ?_ ?_
    with_reducible assumption
    with_reducible refine And.intro ?_ ?_
    with_reducible assumption
    with_reducible refine sX1_asNumber ?_
    simp only [eX1_timesLaid_26, kx_l, nl_int, nl_ref, tl_s]
    with_reducible intro _
    with_reducible exact ih _ _ _ _ (ic_p (by assumption) (by assumption)) (ic_s (by assumption) (by assumption)) (by first | assumption | omega) (by first | assumption | omega)
    with_reducible intro _
    with_reducible intro _
    with_reducible refine And.intro ?_ ?_
    with_reducible refine go_R (by first | assumption | exact hgc _ _ (by assumption) | exact hgl _ _ (by assumption) | exact isR.ext (by assumption) (by assumption)) ?_
    with_reducible intro _
    with_reducible intro _
    with_reducible intro _
    with_reducible intro _
    simp only []
    with_reducible refine And.intro ?_ ?_
    omega
    with_reducible refine And.intro ?_ ?_
    with_reducible assumption
    with_reducible refine And.intro ?_ ?_
    with_reducible assumption
    with_reducible refine sX0_matchesR (by first | assumption | exact hgc _ _ (by assumption) | exact hgl _ _ (by assumption) | exact isR.ext (by assumption) (by assumption)) (by first | assumption | exact hgc _ _ (by assumption) | exact hgl _ _ (by assumption) | exact isR.ext (by assumption) (by assumption)) ?_
    simp only [eX1_timesLaid_23, kx_l, wt_nil, wt_int, tl_s, Nat.add_zero]
    with_reducible intro _
    with_reducible refine And.intro ?_ ?_
    omega
    with_reducible refine And.intro ?_ ?_
    with_reducible assumption
    with_reducible refine And.intro ?_ ?_
    with_reducible assumption
    with_reducible refine sX1_asNumber ?_
    simp only [eX1_timesLaid_26, kx_l, nl_int, nl_ref, tl_s]
    with_reducible intro _
    with_reducible exact ih _ _ _ _ (ic_p (by assumption) (by assumption)) (ic_s (by assumption) (by assumption)) (by first | assumption | omega) (by first | assumption | omega)
    with_reducible refine And.intro ?_ ?_
    with_reducible assumption
    with_reducible refine And.intro ?_ ?_
    with_reducible assumption
    with_reducible exact hQ _
set_option maxHeartbeats 4000000 in
theorem sX1_timesLaid {a0 : Nat} (hC : CC g w0 x nA cA lA kn w) (h0 : isR w a0) (hQ : ∀ v : Int32, Q (.inl (some (.int v))) w) : WP (MX1_timesLaid g) Q (0, [some (.ref x), some (.ref a0), none, none], [], w, 0, 0) := by
  obtain ⟨n, rf, md, f, gc, gl, hx, hn, hc, hl, hgc, hgl, hn0, hn1, rx, rn, rc, rl, ⟨d1, d2, d3, d4, d5, d6⟩, ⟨d7, d8, d9, d10, d11, d12⟩⟩ := hC.1.opn g
  simp only [eX1_timesLaid_0, nl_int, nl_ref]
  with_reducible exact lX1_timesLaid_4 hC h0 hQ _ _ _ _ _ _ ⟨hx, hn, hc, hl, hgc, hgl, hn0, hn1, rx, rn, rc, rl, ⟨d1, d2, d3, d4, d5, d6⟩, ⟨d7, d8, d9, d10, d11, d12⟩⟩ 70 _ _ _ _ (by first | decide | assumption) (by first | decide | exact n12 (by assumption) | exact n60 (by assumption)) (by first | decide | omega) (by first | decide | omega)
end
end
/-! 67.22.class3.lean.txt -/
section
section
variable {g : RO} {Q : Ot → Hw → Prop} {w0 w : Hw} {x nA cA lA : Nat} {kn : Int32}
set_option maxHeartbeats 4000000 in
theorem sX1_isCounted {a0 : Nat} {a1 : Int32} {a2 : Int64} {a3 : Int32} (hC : CC g w0 x nA cA lA kn w) (h0 : isR w a0) (hQ : ∀ v : Bool, Q (.inl (some (.int (bI v)))) w) : WP (MX1_isCounted g) Q (0, [some (.ref x), some (.ref a0), some (.int a1), some (.long a2), none, some (.int a3)], [], w, 0, 0) := by
  obtain ⟨n, rf, md, f, gc, gl, hx, hn, hc, hl, hgc, hgl, hn0, hn1, rx, rn, rc, rl, ⟨d1, d2, d3, d4, d5, d6⟩, ⟨d7, d8, d9, d10, d11, d12⟩⟩ := hC.1.opn g
  have hQt : Q (.inl (some (.int 1))) w := hQ true
  have hQf : Q (.inl (some (.int 0))) w := hQ false
  rcases sw15 a3 with rfl | rfl | rfl | rfl | rfl | hsw
  · simp only [eX1_isCounted_0, eX1_isCounted_2_0, eX1_isCounted_36, wt_nil, Nat.add_zero]
    with_reducible refine And.intro ?_ ?_
    with_reducible refine go_R (by first | assumption | exact hgc _ _ (by assumption) | exact hgl _ _ (by assumption) | exact isR.ext (by assumption) (by assumption)) ?_
    with_reducible intro _
    with_reducible intro _
    with_reducible intro _
    with_reducible intro _
    simp only []
    with_reducible refine And.intro ?_ ?_
    omega
    with_reducible refine And.intro ?_ ?_
    omega
    with_reducible refine And.intro ?_ ?_
    omega
    with_reducible refine sX0_holds (by first | assumption | exact hgc _ _ (by assumption) | exact hgl _ _ (by assumption) | exact isR.ext (by assumption) (by assumption)) ?_
    simp only [eX1_isCounted_41, kx_l, tl_s, nb_b, true_and]
    with_reducible intro _
    with_reducible refine And.intro ?_ ?_
    omega
    with_reducible refine And.intro ?_ ?_
    omega
    with_reducible exact hQ _
  · simp only [eX1_isCounted_0, eX1_isCounted_2_1, eX1_isCounted_42, wt_nil, Nat.add_zero]
    with_reducible refine And.intro ?_ ?_
    with_reducible refine go_R (by first | assumption | exact hgc _ _ (by assumption) | exact hgl _ _ (by assumption) | exact isR.ext (by assumption) (by assumption)) ?_
    with_reducible intro _
    with_reducible intro _
    with_reducible intro _
    with_reducible intro _
    simp only []
    with_reducible refine And.intro ?_ ?_
    omega
    with_reducible refine And.intro ?_ ?_
    omega
    with_reducible refine And.intro ?_ ?_
    omega
    with_reducible refine sX0_holdsAsSmall (by first | assumption | exact hgc _ _ (by assumption) | exact hgl _ _ (by assumption) | exact isR.ext (by assumption) (by assumption)) ?_
    simp only [eX1_isCounted_47, kx_l, tl_s, nb_b, true_and]
    with_reducible intro _
    with_reducible refine And.intro ?_ ?_
    omega
    with_reducible refine And.intro ?_ ?_
    omega
    with_reducible exact hQ _
  · simp only [eX1_isCounted_0, eX1_isCounted_2_2, eX1_isCounted_48, wt_nil, Nat.add_zero]
    with_reducible refine And.intro ?_ ?_
    with_reducible refine go_R (by first | assumption | exact hgc _ _ (by assumption) | exact hgl _ _ (by assumption) | exact isR.ext (by assumption) (by assumption)) ?_
    with_reducible intro _
    with_reducible intro _
    with_reducible intro _
    with_reducible intro _
    simp only []
    with_reducible refine And.intro ?_ ?_
    omega
    with_reducible refine And.intro ?_ ?_
    omega
    with_reducible refine And.intro ?_ ?_
    omega
    with_reducible refine sX0_isSettled (by first | assumption | exact hgc _ _ (by assumption) | exact hgl _ _ (by assumption) | exact isR.ext (by assumption) (by assumption)) ?_
    simp only [eX1_isCounted_52, kx_l, tl_s, nb_b, true_and]
    with_reducible intro _
    with_reducible refine And.intro ?_ ?_
    omega
    with_reducible refine And.intro ?_ ?_
    omega
    with_reducible exact hQ _
  · simp only [eX1_isCounted_0, eX1_isCounted_2_3, eX1_isCounted_53, wt_nil, Nat.add_zero]
    with_reducible refine And.intro ?_ ?_
    with_reducible refine go_R (by first | assumption | exact hgc _ _ (by assumption) | exact hgl _ _ (by assumption) | exact isR.ext (by assumption) (by assumption)) ?_
    with_reducible intro _
    with_reducible intro _
    with_reducible intro _
    with_reducible intro _
    simp only []
    with_reducible refine And.intro ?_ ?_
    omega
    with_reducible refine And.intro ?_ ?_
    omega
    with_reducible refine And.intro ?_ ?_
    omega
    with_reducible refine sX0_fitsSmall (by first | assumption | exact hgc _ _ (by assumption) | exact hgl _ _ (by assumption) | exact isR.ext (by assumption) (by assumption)) ?_
    simp only [eX1_isCounted_57, kx_l, tl_s, nb_b, true_and]
    with_reducible intro _
    with_reducible refine And.intro ?_ ?_
    omega
    with_reducible refine And.intro ?_ ?_
    omega
    with_reducible exact hQ _
  · simp only [eX1_isCounted_0, eX1_isCounted_2_4, eX1_isCounted_58, eX1_isCounted_63, rx, go_s, wt_nil, true_and, Nat.add_zero]
    with_reducible refine And.intro ?_ ?_
    omega
    with_reducible refine And.intro ?_ ?_
    omega
    with_reducible refine And.intro ?_ ?_
    omega
    with_reducible refine sX1_firstPlaceOf (by first | assumption | exact CC.ext (by assumption) (by assumption)) (by first | assumption | exact hgc _ _ (by assumption) | exact hgl _ _ (by assumption) | exact isR.ext (by assumption) (by assumption)) ?_
    simp only [eX1_isCounted_64, eX1_isCounted_67, eX1_isCounted_71, eX1_isCounted_72, ite_le, kx_l, tl_s, nb_0, nb_1, true_and]
    with_reducible intro _
    split
    with_reducible refine And.intro ?_ ?_
    omega
    with_reducible refine And.intro ?_ ?_
    omega
    with_reducible assumption
    with_reducible refine And.intro ?_ ?_
    omega
    with_reducible refine And.intro ?_ ?_
    omega
    with_reducible assumption
  · simp only [eX1_isCounted_0, eX1_isCounted_73, eX1_isCounted_2_d hsw, nb_1, true_and]
    with_reducible refine And.intro ?_ ?_
    omega
    with_reducible refine And.intro ?_ ?_
    omega
    with_reducible assumption
set_option maxHeartbeats 4000000 in
theorem lX1_pileCount_6 {a0 : Int64} {a1 : Int32} (hC : CC g w0 x nA cA lA kn w) (hQ : ∀ v : Int32, Q (.inl (some (.int v))) w) : ∀ (n rf md : Int32) (f : Nat → Int64) (gc gl : Nat → Option Nat), RO5 g w x nA cA lA n rf kn md f gc gl → ∀ (d : Nat) (i4 : Int32) (i5 : Int32) (i6 : Option Value) (k m : Nat), ¬ i5 < 0 → (n : Int32).toInt - i5.toInt ≤ (d : Int) → k ≤ 0 → m ≤ 0 → WP (MX1_pileCount g) Q (6, [some (.ref x), some (.long a0), none, some (.int a1), some (.int i4), some (.int i5), i6], [], w, k, m) := by
  rintro n rf md f gc gl ⟨hx, hn, hc, hl, hgc, hgl, hn0, hn1, rx, rn, rc, rl, ⟨d1, d2, d3, d4, d5, d6⟩, ⟨d7, d8, d9, d10, d11, d12⟩⟩ d
  induction d with
  | zero =>
    intro i4 i5 i6 k m z0 hm hk hs
    rw [eX1_pileCount_6]
    simp only [eX1_pileCount_8, eX1_pileCount_12, eX1_pileCount_15, eX1_pileCount_19, eX1_pileCount_22, eX1_pileCount_22N, eX1_pileCount_24, eX1_pileCount_24N, eX1_pileCount_26R, eX1_pileCount_26N, eX1_pileCount_29, eX1_pileCount_47, eX1_pileCount_53, rx, rl, ite_le, n45, or_false, go_s, gq_s, wt_nil, wt_int, nl_int, rf_st, g0, gS, ex1, true_and, Nat.add_zero]
    split
    with_reducible refine And.intro ?_ ?_
    with_reducible exact (ic_z (by assumption) (by assumption)).elim
    with_reducible refine And.intro ?_ ?_
    with_reducible exact (ic_z (by assumption) (by assumption)).elim
    with_reducible exact (ic_z (by assumption) (by assumption)).elim
    with_reducible refine And.intro ?_ ?_
    with_reducible assumption
    with_reducible refine And.intro ?_ ?_
    with_reducible assumption
    with_reducible exact hQ _
  | succ d ih =>
    intro i4 i5 i6 k m z0 hm hk hs
    rw [eX1_pileCount_6]
    simp only [eX1_pileCount_8, eX1_pileCount_12, eX1_pileCount_15, eX1_pileCount_19, eX1_pileCount_22, eX1_pileCount_22N, eX1_pileCount_24, eX1_pileCount_24N, eX1_pileCount_26R, eX1_pileCount_26N, eX1_pileCount_29, eX1_pileCount_47, eX1_pileCount_53, rx, rl, ite_le, n45, or_false, go_s, gq_s, wt_nil, wt_int, nl_int, rf_st, g0, gS, ex1, true_and, Nat.add_zero]
    split
    with_reducible refine And.intro ?_ ?_
    with_reducible exact vpi12 (by assumption) (by assumption) (by assumption)
    with_reducible refine And.intro ?_ ?_
    with_reducible intro _
    with_reducible exact ih _ _ _ _ _ (ic_p (by assumption) (by assumption)) (ic_s (by assumption) (by assumption)) (by first | assumption | omega) (by first | assumption | omega)
    with_reducible intro _
    with_reducible intro _
    with_reducible refine And.intro ?_ ?_
    omega
    with_reducible refine And.intro ?_ ?_
    with_reducible assumption
    with_reducible refine And.intro ?_ ?_
    with_reducible assumption
    with_reducible refine sX1_isCounted (by first | assumption | exact CC.ext (by assumption) (by assumption)) (by first | assumption | exact hgc _ _ (by assumption) | exact hgl _ _ (by assumption) | exact isR.ext (by assumption) (by assumption)) ?_
    simp only [eX1_pileCount_41, kx_l, wt_nil, wt_int, tl_s, Nat.add_zero]
    with_reducible intro _
    with_reducible refine And.intro ?_ ?_
    omega
    with_reducible refine And.intro ?_ ?_
    with_reducible assumption
    with_reducible refine And.intro ?_ ?_
    with_reducible assumption
    with_reducible refine sX1_asNumber ?_
    simp only [eX1_pileCount_44, eX1_pileCount_47, kx_l, nl_int, tl_s]
    with_reducible intro _
    with_reducible exact ih _ _ _ _ _ (ic_p (by assumption) (by assumption)) (ic_s (by assumption) (by assumption)) (by first | assumption | omega) (by first | assumption | omega)
    with_reducible refine And.intro ?_ ?_
    with_reducible assumption
    with_reducible refine And.intro ?_ ?_
    with_reducible assumption
    with_reducible exact hQ _
set_option maxHeartbeats 4000000 in
theorem sX1_pileCount {a0 : Int64} {a1 : Int32} (hC : CC g w0 x nA cA lA kn w) (hQ : ∀ v : Int32, Q (.inl (some (.int v))) w) : WP (MX1_pileCount g) Q (0, [some (.ref x), some (.long a0), none, some (.int a1), none, none, none], [], w, 0, 0) := by
  obtain ⟨n, rf, md, f, gc, gl, hx, hn, hc, hl, hgc, hgl, hn0, hn1, rx, rn, rc, rl, ⟨d1, d2, d3, d4, d5, d6⟩, ⟨d7, d8, d9, d10, d11, d12⟩⟩ := hC.1.opn g
  simp only [eX1_pileCount_0, nl_int]
  with_reducible exact lX1_pileCount_6 hC hQ _ _ _ _ _ _ ⟨hx, hn, hc, hl, hgc, hgl, hn0, hn1, rx, rn, rc, rl, ⟨d1, d2, d3, d4, d5, d6⟩, ⟨d7, d8, d9, d10, d11, d12⟩⟩ 70 _ _ _ _ _ (by first | decide | assumption) (by first | decide | exact n12 (by assumption) | exact n60 (by assumption)) (by first | decide | omega) (by first | decide | omega)
set_option maxHeartbeats 4000000 in
theorem sX1_houseCount {a0 : Int32} (hC : CC g w0 x nA cA lA kn w) (hQ : ∀ v : Int32, Q (.inl (some (.int v))) w) : WP (MX1_houseCount g) Q (0, [some (.ref x), some (.int a0)], [], w, 0, 0) := by
  obtain ⟨n, rf, md, f, gc, gl, hx, hn, hc, hl, hgc, hgl, hn0, hn1, rx, rn, rc, rl, ⟨d1, d2, d3, d4, d5, d6⟩, ⟨d7, d8, d9, d10, d11, d12⟩⟩ := hC.1.opn g
  rcases sw03 a0 with rfl | rfl | rfl | rfl | hsw
  · simp only [eX1_houseCount_0, eX1_houseCount_1_0, eX1_houseCount_32, rx, go_s, wt_nil, true_and, Nat.add_zero]
    with_reducible refine And.intro ?_ ?_
    omega
    with_reducible refine And.intro ?_ ?_
    omega
    with_reducible refine And.intro ?_ ?_
    omega
    with_reducible refine sX1_cardsWithRange (by first | assumption | exact CC.ext (by assumption) (by assumption)) ?_
    simp only [eX1_houseCount_36, kx_l, tl_s]
    with_reducible intro _
    with_reducible refine And.intro ?_ ?_
    omega
    with_reducible refine And.intro ?_ ?_
    omega
    with_reducible exact hQ _
  · simp only [eX1_houseCount_0, eX1_houseCount_1_1, eX1_houseCount_37, eX1_houseCount_41, rx, go_s, g0, gS, ex1]
    with_reducible refine And.intro ?_ ?_
    omega
    with_reducible refine And.intro ?_ ?_
    omega
    with_reducible exact hQ _
  · simp only [eX1_houseCount_0, eX1_houseCount_1_2, eX1_houseCount_42, eX1_houseCount_46, rx, go_s, g0, gS, ex1]
    with_reducible refine And.intro ?_ ?_
    omega
    with_reducible refine And.intro ?_ ?_
    omega
    with_reducible exact hQ _
  · simp only [eX1_houseCount_0, eX1_houseCount_1_3, eX1_houseCount_47, eX1_houseCount_51, rx, go_s, g0, gS, ex1]
    with_reducible refine And.intro ?_ ?_
    omega
    with_reducible refine And.intro ?_ ?_
    omega
    with_reducible exact hQ _
  · simp only [eX1_houseCount_0, eX1_houseCount_52, eX1_houseCount_56, rx, eX1_houseCount_1_d hsw, go_s, g0, gS, ex1]
    with_reducible refine And.intro ?_ ?_
    omega
    with_reducible refine And.intro ?_ ?_
    omega
    with_reducible exact hQ _
end
end
/-! 67.22.class4.lean.txt -/
section
section
variable {g : RO} {Q : Ot → Hw → Prop} {w0 w : Hw} {x nA cA lA : Nat} {kn : Int32}
set_option maxHeartbeats 4000000 in
theorem sX1_isOuterSound {a0 : Nat} (h0 : isR w a0) (hQ : ∀ v : Bool, Q (.inl (some (.int (bI v)))) w) : WP (MX1_isOuterSound g) Q (0, [some (.ref a0)], [], w, 0, 0) := by
  have hQt : Q (.inl (some (.int 1))) w := hQ true
  have hQf : Q (.inl (some (.int 0))) w := hQ false
  simp only [eX1_isOuterSound_0, eX1_isOuterSound_4]
  with_reducible refine go_R (by assumption) ?_
  simp only [eX1_isOuterSound_7, eX1_isOuterSound_11, eX1_isOuterSound_16, eX1_isOuterSound_24, eX1_isOuterSound_28, g0, ex1]
  with_reducible intro _
  split
  with_reducible intro _
  with_reducible intro _
  with_reducible intro _
  with_reducible refine go_R (by assumption) ?_
  simp only [eX1_isOuterSound_31, eX1_isOuterSound_35, eX1_isOuterSound_40, eX1_isOuterSound_48, eX1_isOuterSound_53, g0, gS, ex1, nb_1, true_and]
  with_reducible intro _
  with_reducible intro _
  with_reducible intro _
  with_reducible intro _
  split
  with_reducible refine And.intro ?_ ?_
  omega
  with_reducible refine And.intro ?_ ?_
  omega
  with_reducible assumption
  with_reducible refine go_R (by assumption) ?_
  simp only [eX1_isOuterSound_41, wt_nil, g0, gS, ex1, Nat.add_zero]
  with_reducible intro _
  with_reducible intro _
  with_reducible intro _
  with_reducible intro _
  with_reducible refine And.intro ?_ ?_
  with_reducible refine go_R (by assumption) ?_
  with_reducible intro _
  with_reducible intro _
  with_reducible intro _
  with_reducible intro _
  simp only []
  with_reducible refine And.intro ?_ ?_
  omega
  with_reducible refine And.intro ?_ ?_
  omega
  with_reducible refine And.intro ?_ ?_
  omega
  with_reducible refine sX0_holds (by first | assumption | exact hgc _ _ (by assumption) | exact hgl _ _ (by assumption) | exact isR.ext (by assumption) (by assumption)) ?_
  simp only [eX1_isOuterSound_45, eX1_isOuterSound_48, eX1_isOuterSound_52, eX1_isOuterSound_53, kx_l, tl_s, nb_0, nb_1, true_and]
  with_reducible intro _
  split
  with_reducible refine And.intro ?_ ?_
  omega
  with_reducible refine And.intro ?_ ?_
  omega
  with_reducible assumption
  with_reducible refine And.intro ?_ ?_
  omega
  with_reducible refine And.intro ?_ ?_
  omega
  with_reducible assumption
  with_reducible intro _
  with_reducible intro _
  with_reducible intro _
  with_reducible refine go_R (by assumption) ?_
  simp only [eX1_isOuterSound_17, wt_nil, g0, ex1, Nat.add_zero]
  with_reducible intro _
  with_reducible intro _
  with_reducible intro _
  with_reducible intro _
  with_reducible refine And.intro ?_ ?_
  with_reducible refine go_R (by assumption) ?_
  with_reducible intro _
  with_reducible intro _
  with_reducible intro _
  with_reducible intro _
  simp only []
  with_reducible refine And.intro ?_ ?_
  omega
  with_reducible refine And.intro ?_ ?_
  omega
  with_reducible refine And.intro ?_ ?_
  omega
  with_reducible refine sX0_holds (by first | assumption | exact hgc _ _ (by assumption) | exact hgl _ _ (by assumption) | exact isR.ext (by assumption) (by assumption)) ?_
  simp only [eX1_isOuterSound_21, eX1_isOuterSound_24, eX1_isOuterSound_28, eX1_isOuterSound_52, eX1_isOuterSound_53, kx_l, tl_s, nb_0, true_and]
  with_reducible intro _
  split
  with_reducible refine go_R (by assumption) ?_
  simp only [eX1_isOuterSound_31, eX1_isOuterSound_35, eX1_isOuterSound_40, eX1_isOuterSound_48, eX1_isOuterSound_53, g0, gS, ex1, nb_1, true_and]
  with_reducible intro _
  with_reducible intro _
  with_reducible intro _
  with_reducible intro _
  split
  with_reducible refine And.intro ?_ ?_
  omega
  with_reducible refine And.intro ?_ ?_
  omega
  with_reducible assumption
  with_reducible refine go_R (by assumption) ?_
  simp only [eX1_isOuterSound_41, wt_nil, g0, gS, ex1, Nat.add_zero]
  with_reducible intro _
  with_reducible intro _
  with_reducible intro _
  with_reducible intro _
  with_reducible refine And.intro ?_ ?_
  with_reducible refine go_R (by assumption) ?_
  with_reducible intro _
  with_reducible intro _
  with_reducible intro _
  with_reducible intro _
  simp only []
  with_reducible refine And.intro ?_ ?_
  omega
  with_reducible refine And.intro ?_ ?_
  omega
  with_reducible refine And.intro ?_ ?_
  omega
  with_reducible refine sX0_holds (by first | assumption | exact hgc _ _ (by assumption) | exact hgl _ _ (by assumption) | exact isR.ext (by assumption) (by assumption)) ?_
  simp only [eX1_isOuterSound_45, eX1_isOuterSound_48, eX1_isOuterSound_52, eX1_isOuterSound_53, kx_l, tl_s, nb_0, nb_1, true_and]
  with_reducible intro _
  split
  with_reducible refine And.intro ?_ ?_
  omega
  with_reducible refine And.intro ?_ ?_
  omega
  with_reducible assumption
  with_reducible refine And.intro ?_ ?_
  omega
  with_reducible refine And.intro ?_ ?_
  omega
  with_reducible assumption
  with_reducible refine And.intro ?_ ?_
  omega
  with_reducible refine And.intro ?_ ?_
  omega
  with_reducible assumption
set_option maxHeartbeats 4000000 in
theorem lX1_isEachEndHeld_2 {a0 : Nat} (h0 : isR w a0) (hQ : ∀ v : Bool, Q (.inl (some (.int (bI v)))) w) : ∀ (d : Nat) (i1 : Int32) (i2 : Option Value) (i3 : Option Value) (k m : Nat), ¬ i1 < 0 → (4 : Int32).toInt - i1.toInt ≤ (d : Int) → k ≤ 0 → m ≤ 0 → WP (MX1_isEachEndHeld g) Q (2, [some (.ref a0), some (.int i1), i2, i3], [], w, k, m) := by
  intro d
  have hQt : Q (.inl (some (.int 1))) w := hQ true
  have hQf : Q (.inl (some (.int 0))) w := hQ false
  induction d with
  | zero =>
    intro i1 i2 i3 k m z0 hm hk hs
    rw [eX1_isEachEndHeld_2]
    simp only [eX1_isEachEndHeld_3, eX1_isEachEndHeld_7, eX1_isEachEndHeld_41, ite_le, wt_nil, nb_1, true_and, Nat.add_zero]
    split
    with_reducible refine And.intro ?_ ?_
    with_reducible exact (ic_z (by assumption) (by assumption)).elim
    with_reducible refine And.intro ?_ ?_
    with_reducible exact (ic_z (by assumption) (by assumption)).elim
    with_reducible refine And.intro ?_ ?_
    with_reducible assumption
    with_reducible refine And.intro ?_ ?_
    with_reducible assumption
    with_reducible exact (ic_z (by assumption) (by assumption)).elim
    with_reducible refine And.intro ?_ ?_
    with_reducible assumption
    with_reducible refine And.intro ?_ ?_
    with_reducible assumption
    with_reducible assumption
  | succ d ih =>
    intro i1 i2 i3 k m z0 hm hk hs
    rw [eX1_isEachEndHeld_2]
    simp only [eX1_isEachEndHeld_3, eX1_isEachEndHeld_7, eX1_isEachEndHeld_41, ite_le, wt_nil, nb_1, true_and, Nat.add_zero]
    split
    with_reducible refine And.intro ?_ ?_
    with_reducible refine go_R (by assumption) ?_
    with_reducible intro _
    with_reducible intro _
    with_reducible intro _
    with_reducible intro _
    simp only []
    with_reducible refine And.intro ?_ ?_
    omega
    with_reducible refine And.intro ?_ ?_
    with_reducible assumption
    with_reducible refine And.intro ?_ ?_
    with_reducible assumption
    with_reducible refine sX0_endAt (by first | assumption | exact hgc _ _ (by assumption) | exact hgl _ _ (by assumption) | exact isR.ext (by assumption) (by assumption)) ?_
    simp only [eX1_isEachEndHeld_12, kx_l, wt_nil, nl_int, tl_s, Nat.add_zero]
    with_reducible intro _
    with_reducible refine And.intro ?_ ?_
    with_reducible refine go_R (by assumption) ?_
    with_reducible intro _
    with_reducible intro _
    with_reducible intro _
    with_reducible intro _
    simp only []
    with_reducible refine And.intro ?_ ?_
    omega
    with_reducible refine And.intro ?_ ?_
    with_reducible assumption
    with_reducible refine And.intro ?_ ?_
    with_reducible assumption
    with_reducible refine sX0_holds (by first | assumption | exact hgc _ _ (by assumption) | exact hgl _ _ (by assumption) | exact isR.ext (by assumption) (by assumption)) ?_
    simp only [eX1_isEachEndHeld_18, eX1_isEachEndHeld_21, eX1_isEachEndHeld_26, eX1_isEachEndHeld_33, kx_l, wt_nil, tl_s, nb_0, true_and, Nat.add_zero]
    with_reducible intro _
    split
    with_reducible refine And.intro ?_ ?_
    with_reducible assumption
    with_reducible refine And.intro ?_ ?_
    with_reducible assumption
    with_reducible assumption
    with_reducible refine And.intro ?_ ?_
    with_reducible refine go_R (by assumption) ?_
    with_reducible intro _
    with_reducible intro _
    with_reducible intro _
    with_reducible intro _
    simp only []
    with_reducible refine And.intro ?_ ?_
    omega
    with_reducible refine And.intro ?_ ?_
    with_reducible assumption
    with_reducible refine And.intro ?_ ?_
    with_reducible assumption
    with_reducible refine sX0_holdsAsSmall (by first | assumption | exact hgc _ _ (by assumption) | exact hgl _ _ (by assumption) | exact isR.ext (by assumption) (by assumption)) ?_
    simp only [kx_l, wt_nil, wt_int, tl_s, Nat.add_zero]
    with_reducible intro _
    with_reducible refine And.intro ?_ ?_
    with_reducible refine go_R (by assumption) ?_
    with_reducible intro _
    with_reducible intro _
    with_reducible intro _
    with_reducible intro _
    simp only []
    with_reducible refine And.intro ?_ ?_
    omega
    with_reducible refine And.intro ?_ ?_
    with_reducible assumption
    with_reducible refine And.intro ?_ ?_
    with_reducible assumption
    with_reducible refine sX0_fitsSmall (by first | assumption | exact hgc _ _ (by assumption) | exact hgl _ _ (by assumption) | exact isR.ext (by assumption) (by assumption)) ?_
    simp only [eX1_isEachEndHeld_30, eX1_isEachEndHeld_33, eX1_isEachEndHeld_35, kx_l, nl_ref, tl_s, nb_0, true_and]
    with_reducible intro _
    split
    with_reducible exact ih _ _ _ _ _ (ic_p (by assumption) (by assumption)) (ic_s (by assumption) (by assumption)) (by first | assumption | omega) (by first | assumption | omega)
    with_reducible refine And.intro ?_ ?_
    with_reducible assumption
    with_reducible refine And.intro ?_ ?_
    with_reducible assumption
    with_reducible assumption
    with_reducible refine And.intro ?_ ?_
    with_reducible assumption
    with_reducible refine And.intro ?_ ?_
    with_reducible assumption
    with_reducible assumption
set_option maxHeartbeats 4000000 in
theorem sX1_isEachEndHeld {a0 : Nat} (h0 : isR w a0) (hQ : ∀ v : Bool, Q (.inl (some (.int (bI v)))) w) : WP (MX1_isEachEndHeld g) Q (0, [some (.ref a0), none, none, none], [], w, 0, 0) := by
  have hQt : Q (.inl (some (.int 1))) w := hQ true
  have hQf : Q (.inl (some (.int 0))) w := hQ false
  simp only [eX1_isEachEndHeld_0, nl_ref]
  with_reducible exact lX1_isEachEndHeld_2 h0 hQ 70 _ _ _ _ _ (by first | decide | assumption) (by first | decide | exact n12 (by assumption) | exact n60 (by assumption)) (by first | decide | omega) (by first | decide | omega)
set_option maxHeartbeats 4000000 in
theorem lX1_hasSameValid_8R {a0 : Nat} {a1 : Nat} (hC : CC g w0 x nA cA lA kn w) (h0 : isR w a0) (h1 : isR w a1) (hQ : ∀ v : Bool, Q (.inl (some (.int (bI v)))) w) : ∀ (n rf md : Int32) (f : Nat → Int64) (gc gl : Nat → Option Nat), RO5 g w x nA cA lA n rf kn md f gc gl → ∀ (d : Nat) (i3 : Int32) (k m : Nat), ¬ i3 < 0 → (8 : Int32).toInt - i3.toInt ≤ (d : Int) → k ≤ 0 → m ≤ 0 → WP (MX1_hasSameValid g) Q (8, [some (.ref x), some (.ref a0), some (.ref a1), some (.int i3)], [], w, k, m) := by
  rintro n rf md f gc gl ⟨hx, hn, hc, hl, hgc, hgl, hn0, hn1, rx, rn, rc, rl, ⟨d1, d2, d3, d4, d5, d6⟩, ⟨d7, d8, d9, d10, d11, d12⟩⟩ d
  have hQt : Q (.inl (some (.int 1))) w := hQ true
  have hQf : Q (.inl (some (.int 0))) w := hQ false
  induction d with
  | zero =>
    intro i3 k m z0 hm hk hs
    rw [eX1_hasSameValid_8]
    simp only [eX1_hasSameValid_9, eX1_hasSameValid_14, eX1_hasSameValid_19, eX1_hasSameValid_21, eX1_hasSameValid_24, eX1_hasSameValid_29, eX1_hasSameValid_45, rx, rn, ite_le, go_s, gl_s, wt_nil, g0, ex1, nb_1, true_and, Nat.add_zero]
    split
    with_reducible refine And.intro ?_ ?_
    with_reducible exact vpi8 (by assumption) (by assumption)
    with_reducible refine And.intro ?_ ?_
    with_reducible exact (ic_z (by assumption) (by assumption)).elim
    with_reducible refine And.intro ?_ ?_
    with_reducible exact (ic_z (by assumption) (by assumption)).elim
    with_reducible refine And.intro ?_ ?_
    with_reducible assumption
    with_reducible refine And.intro ?_ ?_
    with_reducible assumption
    with_reducible exact (ic_z (by assumption) (by assumption)).elim
    with_reducible refine And.intro ?_ ?_
    with_reducible assumption
    with_reducible refine And.intro ?_ ?_
    with_reducible assumption
    with_reducible assumption
  | succ d ih =>
    intro i3 k m z0 hm hk hs
    rw [eX1_hasSameValid_8]
    simp only [eX1_hasSameValid_9, eX1_hasSameValid_14, eX1_hasSameValid_19, eX1_hasSameValid_21, eX1_hasSameValid_24, eX1_hasSameValid_29, eX1_hasSameValid_45, rx, rn, ite_le, go_s, gl_s, wt_nil, g0, ex1, nb_1, true_and, Nat.add_zero]
    split
    with_reducible refine And.intro ?_ ?_
    with_reducible exact vpi8 (by assumption) (by assumption)
    with_reducible refine And.intro ?_ ?_
    with_reducible refine go_R (by first | assumption | exact hgc _ _ (by assumption) | exact hgl _ _ (by assumption) | exact isR.ext (by assumption) (by assumption)) ?_
    with_reducible intro _
    with_reducible intro _
    with_reducible intro _
    with_reducible intro _
    simp only []
    with_reducible refine And.intro ?_ ?_
    omega
    with_reducible refine And.intro ?_ ?_
    with_reducible assumption
    with_reducible refine And.intro ?_ ?_
    with_reducible assumption
    with_reducible refine sX0_holds (by first | assumption | exact hgc _ _ (by assumption) | exact hgl _ _ (by assumption) | exact isR.ext (by assumption) (by assumption)) ?_
    simp only [eX1_hasSameValid_30, eX1_hasSameValid_31, rx, rn, kx_l, go_s, gl_s, wt_nil, wt_int, tl_s, g0, ex1, Nat.add_zero]
    with_reducible intro _
    with_reducible refine And.intro ?_ ?_
    with_reducible exact vpi8 (by assumption) (by assumption)
    with_reducible refine And.intro ?_ ?_
    with_reducible refine go_R (by first | assumption | exact hgc _ _ (by assumption) | exact hgl _ _ (by assumption) | exact isR.ext (by assumption) (by assumption)) ?_
    with_reducible intro _
    with_reducible intro _
    with_reducible intro _
    with_reducible intro _
    simp only []
    with_reducible refine And.intro ?_ ?_
    omega
    with_reducible refine And.intro ?_ ?_
    with_reducible assumption
    with_reducible refine And.intro ?_ ?_
    with_reducible assumption
    with_reducible refine sX0_holds (by first | assumption | exact hgc _ _ (by assumption) | exact hgl _ _ (by assumption) | exact isR.ext (by assumption) (by assumption)) ?_
    simp only [eX1_hasSameValid_34, eX1_hasSameValid_37, eX1_hasSameValid_39, kx_l, nl_ref, tl_s, nb_0, true_and]
    with_reducible intro _
    split
    with_reducible exact ih _ _ _ (ic_p (by assumption) (by assumption)) (ic_s (by assumption) (by assumption)) (by first | assumption | omega) (by first | assumption | omega)
    with_reducible refine And.intro ?_ ?_
    with_reducible assumption
    with_reducible refine And.intro ?_ ?_
    with_reducible assumption
    with_reducible assumption
    with_reducible refine And.intro ?_ ?_
    with_reducible assumption
    with_reducible refine And.intro ?_ ?_
    with_reducible assumption
    with_reducible assumption
set_option maxHeartbeats 4000000 in
theorem sX1_hasSameValidR {a0 : Nat} {a1 : Nat} (hC : CC g w0 x nA cA lA kn w) (h0 : isR w a0) (h1 : isR w a1) (hQ : ∀ v : Bool, Q (.inl (some (.int (bI v)))) w) : WP (MX1_hasSameValid g) Q (0, [some (.ref x), some (.ref a0), some (.ref a1), none], [], w, 0, 0) := by
  obtain ⟨n, rf, md, f, gc, gl, hx, hn, hc, hl, hgc, hgl, hn0, hn1, rx, rn, rc, rl, ⟨d1, d2, d3, d4, d5, d6⟩, ⟨d7, d8, d9, d10, d11, d12⟩⟩ := hC.1.opn g
  have hQt : Q (.inl (some (.int 1))) w := hQ true
  have hQf : Q (.inl (some (.int 0))) w := hQ false
  simp only [eX1_hasSameValid_0, eX1_hasSameValid_1R, eX1_hasSameValid_6, nl_ref]
  with_reducible exact lX1_hasSameValid_8R hC h0 h1 hQ _ _ _ _ _ _ ⟨hx, hn, hc, hl, hgc, hgl, hn0, hn1, rx, rn, rc, rl, ⟨d1, d2, d3, d4, d5, d6⟩, ⟨d7, d8, d9, d10, d11, d12⟩⟩ 70 _ _ _ (by first | decide | assumption) (by first | decide | exact n12 (by assumption) | exact n60 (by assumption)) (by first | decide | omega) (by first | decide | omega)
set_option maxHeartbeats 4000000 in
theorem sX1_hasSameValidN {a1 : Nat} (hC : CC g w0 x nA cA lA kn w) (h1 : isR w a1) (hQ : ∀ v : Bool, Q (.inl (some (.int (bI v)))) w) : WP (MX1_hasSameValid g) Q (0, [some (.ref x), some .null, some (.ref a1), none], [], w, 0, 0) := by
  obtain ⟨n, rf, md, f, gc, gl, hx, hn, hc, hl, hgc, hgl, hn0, hn1, rx, rn, rc, rl, ⟨d1, d2, d3, d4, d5, d6⟩, ⟨d7, d8, d9, d10, d11, d12⟩⟩ := hC.1.opn g
  have hQt : Q (.inl (some (.int 1))) w := hQ true
  have hQf : Q (.inl (some (.int 0))) w := hQ false
  simp only [eX1_hasSameValid_0N, eX1_hasSameValid_1N, eX1_hasSameValid_4, nb_0, true_and]
  with_reducible refine And.intro ?_ ?_
  omega
  with_reducible refine And.intro ?_ ?_
  omega
  with_reducible assumption
set_option maxHeartbeats 4000000 in
theorem lX1_isSameToAndFro_2 {a0 : Nat} (hC : CC g w0 x nA cA lA kn w) (h0 : isR w a0) (hQ : ∀ v : Bool, Q (.inl (some (.int (bI v)))) w) : ∀ (n rf md : Int32) (f : Nat → Int64) (gc gl : Nat → Option Nat), RO5 g w x nA cA lA n rf kn md f gc gl → ∀ (d : Nat) (i2 : Int32) (i3 : Option Value) (k m : Nat), ¬ i2 < 0 → (6 : Int32).toInt - i2.toInt ≤ (d : Int) → k ≤ 0 → m ≤ 0 → WP (MX1_isSameToAndFro g) Q (2, [some (.ref x), some (.ref a0), some (.int i2), i3], [], w, k, m) := by
  rintro n rf md f gc gl ⟨hx, hn, hc, hl, hgc, hgl, hn0, hn1, rx, rn, rc, rl, ⟨d1, d2, d3, d4, d5, d6⟩, ⟨d7, d8, d9, d10, d11, d12⟩⟩ d
  have hQt : Q (.inl (some (.int 1))) w := hQ true
  have hQf : Q (.inl (some (.int 0))) w := hQ false
  induction d with
  | zero =>
    intro i2 i3 k m z0 hm hk hs
    rw [eX1_isSameToAndFro_2]
    simp only [eX1_isSameToAndFro_3, eX1_isSameToAndFro_8, eX1_isSameToAndFro_12, eX1_isSameToAndFro_14, eX1_isSameToAndFro_14N, eX1_isSameToAndFro_15, eX1_isSameToAndFro_15N, eX1_isSameToAndFro_16R, eX1_isSameToAndFro_16N, eX1_isSameToAndFro_19, eX1_isSameToAndFro_24, eX1_isSameToAndFro_34, eX1_isSameToAndFro_40, rx, rc, ite_le, n45, or_false, go_s, gq_s, wt_nil, nl_int, nl_ref, rf_st, g0, gS, ex1, nb_1, true_and, Nat.add_zero]
    split
    with_reducible refine And.intro ?_ ?_
    with_reducible exact vpi6 (by assumption) (by assumption)
    with_reducible refine And.intro ?_ ?_
    with_reducible exact (ic_z (by assumption) (by assumption)).elim
    with_reducible exact (ic_z (by assumption) (by assumption)).elim
    with_reducible refine And.intro ?_ ?_
    with_reducible assumption
    with_reducible refine And.intro ?_ ?_
    with_reducible assumption
    with_reducible assumption
  | succ d ih =>
    intro i2 i3 k m z0 hm hk hs
    rw [eX1_isSameToAndFro_2]
    simp only [eX1_isSameToAndFro_3, eX1_isSameToAndFro_8, eX1_isSameToAndFro_12, eX1_isSameToAndFro_14, eX1_isSameToAndFro_14N, eX1_isSameToAndFro_15, eX1_isSameToAndFro_15N, eX1_isSameToAndFro_16R, eX1_isSameToAndFro_16N, eX1_isSameToAndFro_19, eX1_isSameToAndFro_24, eX1_isSameToAndFro_34, eX1_isSameToAndFro_40, rx, rc, ite_le, n45, or_false, go_s, gq_s, wt_nil, nl_int, nl_ref, rf_st, g0, gS, ex1, nb_1, true_and, Nat.add_zero]
    split
    with_reducible refine And.intro ?_ ?_
    with_reducible exact vpi6 (by assumption) (by assumption)
    with_reducible refine And.intro ?_ ?_
    with_reducible intro _
    with_reducible exact ih _ _ _ _ (ic_p (by assumption) (by assumption)) (ic_s (by assumption) (by assumption)) (by first | assumption | omega) (by first | assumption | omega)
    with_reducible intro _
    with_reducible intro _
    with_reducible refine And.intro ?_ ?_
    with_reducible refine go_R (by first | assumption | exact hgc _ _ (by assumption) | exact hgl _ _ (by assumption) | exact isR.ext (by assumption) (by assumption)) ?_
    with_reducible intro _
    with_reducible intro _
    with_reducible intro _
    with_reducible intro _
    simp only []
    with_reducible refine And.intro ?_ ?_
    omega
    with_reducible refine And.intro ?_ ?_
    with_reducible assumption
    with_reducible refine And.intro ?_ ?_
    with_reducible assumption
    with_reducible refine sX0_matchesR (by first | assumption | exact hgc _ _ (by assumption) | exact hgl _ _ (by assumption) | exact isR.ext (by assumption) (by assumption)) (by first | assumption | exact hgc _ _ (by assumption) | exact hgl _ _ (by assumption) | exact isR.ext (by assumption) (by assumption)) ?_
    simp only [kx_l, wt_nil, wt_int, tl_s, Nat.add_zero]
    with_reducible intro _
    with_reducible refine And.intro ?_ ?_
    with_reducible refine go_R (by first | assumption | exact hgc _ _ (by assumption) | exact hgl _ _ (by assumption) | exact isR.ext (by assumption) (by assumption)) ?_
    with_reducible intro _
    with_reducible intro _
    with_reducible intro _
    with_reducible intro _
    simp only []
    with_reducible refine And.intro ?_ ?_
    omega
    with_reducible refine And.intro ?_ ?_
    with_reducible assumption
    with_reducible refine And.intro ?_ ?_
    with_reducible assumption
    with_reducible refine sX0_matchesR (by first | assumption | exact hgc _ _ (by assumption) | exact hgl _ _ (by assumption) | exact isR.ext (by assumption) (by assumption)) (by first | assumption | exact hgc _ _ (by assumption) | exact hgl _ _ (by assumption) | exact isR.ext (by assumption) (by assumption)) ?_
    simp only [eX1_isSameToAndFro_29, eX1_isSameToAndFro_32, eX1_isSameToAndFro_34, kx_l, nl_ref, tl_s, nb_0, true_and]
    with_reducible intro _
    split
    with_reducible exact ih _ _ _ _ (ic_p (by assumption) (by assumption)) (ic_s (by assumption) (by assumption)) (by first | assumption | omega) (by first | assumption | omega)
    with_reducible refine And.intro ?_ ?_
    with_reducible assumption
    with_reducible refine And.intro ?_ ?_
    with_reducible assumption
    with_reducible assumption
    with_reducible refine And.intro ?_ ?_
    with_reducible assumption
    with_reducible refine And.intro ?_ ?_
    with_reducible assumption
    with_reducible assumption
set_option maxHeartbeats 4000000 in
theorem sX1_isSameToAndFro {a0 : Nat} (hC : CC g w0 x nA cA lA kn w) (h0 : isR w a0) (hQ : ∀ v : Bool, Q (.inl (some (.int (bI v)))) w) : WP (MX1_isSameToAndFro g) Q (0, [some (.ref x), some (.ref a0), none, none], [], w, 0, 0) := by
  obtain ⟨n, rf, md, f, gc, gl, hx, hn, hc, hl, hgc, hgl, hn0, hn1, rx, rn, rc, rl, ⟨d1, d2, d3, d4, d5, d6⟩, ⟨d7, d8, d9, d10, d11, d12⟩⟩ := hC.1.opn g
  have hQt : Q (.inl (some (.int 1))) w := hQ true
  have hQf : Q (.inl (some (.int 0))) w := hQ false
  simp only [eX1_isSameToAndFro_0, nl_ref]
  with_reducible exact lX1_isSameToAndFro_2 hC h0 hQ _ _ _ _ _ _ ⟨hx, hn, hc, hl, hgc, hgl, hn0, hn1, rx, rn, rc, rl, ⟨d1, d2, d3, d4, d5, d6⟩, ⟨d7, d8, d9, d10, d11, d12⟩⟩ 70 _ _ _ _ (by first | decide | assumption) (by first | decide | exact n12 (by assumption) | exact n60 (by assumption)) (by first | decide | omega) (by first | decide | omega)
set_option maxHeartbeats 4000000 in
theorem lX1_isEachFoundInPile_2  (hC : CC g w0 x nA cA lA kn w) (hQ : ∀ v : Bool, Q (.inl (some (.int (bI v)))) w) : ∀ (n rf md : Int32) (f : Nat → Int64) (gc gl : Nat → Option Nat), RO5 g w x nA cA lA n rf kn md f gc gl → ∀ (d : Nat) (i1 : Int32) (i2 : Option Value) (k m : Nat), ¬ i1 < 0 → (n : Int32).toInt - i1.toInt ≤ (d : Int) → k ≤ 0 → m ≤ 0 → WP (MX1_isEachFoundInPile g) Q (2, [some (.ref x), some (.int i1), i2], [], w, k, m) := by
  rintro n rf md f gc gl ⟨hx, hn, hc, hl, hgc, hgl, hn0, hn1, rx, rn, rc, rl, ⟨d1, d2, d3, d4, d5, d6⟩, ⟨d7, d8, d9, d10, d11, d12⟩⟩ d
  have hQt : Q (.inl (some (.int 1))) w := hQ true
  have hQf : Q (.inl (some (.int 0))) w := hQ false
  induction d with
  | zero =>
    intro i1 i2 k m z0 hm hk hs
    rw [eX1_isEachFoundInPile_2]
    simp only [eX1_isEachFoundInPile_3, eX1_isEachFoundInPile_7, eX1_isEachFoundInPile_10, eX1_isEachFoundInPile_14, eX1_isEachFoundInPile_16, eX1_isEachFoundInPile_16N, eX1_isEachFoundInPile_17, eX1_isEachFoundInPile_17N, eX1_isEachFoundInPile_18R, eX1_isEachFoundInPile_18N, eX1_isEachFoundInPile_21, eX1_isEachFoundInPile_26, eX1_isEachFoundInPile_30, eX1_isEachFoundInPile_38, rx, rl, ite_le, n45, or_false, go_s, gq_s, wt_nil, nl_int, rf_st, g0, gS, ex1, nb_0, nb_1, true_and, Nat.add_zero]
    split
    with_reducible refine And.intro ?_ ?_
    with_reducible exact (ic_z (by assumption) (by assumption)).elim
    with_reducible refine And.intro ?_ ?_
    with_reducible exact (ic_z (by assumption) (by assumption)).elim
    with_reducible exact (ic_z (by assumption) (by assumption)).elim
    with_reducible refine And.intro ?_ ?_
    with_reducible assumption
    with_reducible refine And.intro ?_ ?_
    with_reducible assumption
    with_reducible assumption
  | succ d ih =>
    intro i1 i2 k m z0 hm hk hs
    rw [eX1_isEachFoundInPile_2]
    simp only [eX1_isEachFoundInPile_3, eX1_isEachFoundInPile_7, eX1_isEachFoundInPile_10, eX1_isEachFoundInPile_14, eX1_isEachFoundInPile_16, eX1_isEachFoundInPile_16N, eX1_isEachFoundInPile_17, eX1_isEachFoundInPile_17N, eX1_isEachFoundInPile_18R, eX1_isEachFoundInPile_18N, eX1_isEachFoundInPile_21, eX1_isEachFoundInPile_26, eX1_isEachFoundInPile_30, eX1_isEachFoundInPile_38, rx, rl, ite_le, n45, or_false, go_s, gq_s, wt_nil, nl_int, rf_st, g0, gS, ex1, nb_0, nb_1, true_and, Nat.add_zero]
    split
    with_reducible refine And.intro ?_ ?_
    with_reducible exact vpi12 (by assumption) (by assumption) (by assumption)
    with_reducible refine And.intro ?_ ?_
    with_reducible intro _
    with_reducible refine And.intro ?_ ?_
    with_reducible assumption
    with_reducible refine And.intro ?_ ?_
    with_reducible assumption
    with_reducible assumption
    with_reducible intro _
    with_reducible intro _
    with_reducible refine And.intro ?_ ?_
    omega
    with_reducible refine And.intro ?_ ?_
    with_reducible assumption
    with_reducible refine And.intro ?_ ?_
    with_reducible assumption
    with_reducible refine sX1_firstPlaceOf (by first | assumption | exact CC.ext (by assumption) (by assumption)) (by first | assumption | exact hgc _ _ (by assumption) | exact hgl _ _ (by assumption) | exact isR.ext (by assumption) (by assumption)) ?_
    simp only [eX1_isEachFoundInPile_27, eX1_isEachFoundInPile_30, eX1_isEachFoundInPile_32, kx_l, nl_ref, tl_s, nb_0, true_and]
    with_reducible intro _
    split
    with_reducible refine And.intro ?_ ?_
    with_reducible assumption
    with_reducible refine And.intro ?_ ?_
    with_reducible assumption
    with_reducible assumption
    with_reducible exact ih _ _ _ _ (ic_p (by assumption) (by assumption)) (ic_s (by assumption) (by assumption)) (by first | assumption | omega) (by first | assumption | omega)
    with_reducible refine And.intro ?_ ?_
    with_reducible assumption
    with_reducible refine And.intro ?_ ?_
    with_reducible assumption
    with_reducible assumption
set_option maxHeartbeats 4000000 in
theorem sX1_isEachFoundInPile  (hC : CC g w0 x nA cA lA kn w) (hQ : ∀ v : Bool, Q (.inl (some (.int (bI v)))) w) : WP (MX1_isEachFoundInPile g) Q (0, [some (.ref x), none, none], [], w, 0, 0) := by
  obtain ⟨n, rf, md, f, gc, gl, hx, hn, hc, hl, hgc, hgl, hn0, hn1, rx, rn, rc, rl, ⟨d1, d2, d3, d4, d5, d6⟩, ⟨d7, d8, d9, d10, d11, d12⟩⟩ := hC.1.opn g
  have hQt : Q (.inl (some (.int 1))) w := hQ true
  have hQf : Q (.inl (some (.int 0))) w := hQ false
  simp only [eX1_isEachFoundInPile_0, nl_ref]
  with_reducible exact lX1_isEachFoundInPile_2 hC hQ _ _ _ _ _ _ ⟨hx, hn, hc, hl, hgc, hgl, hn0, hn1, rx, rn, rc, rl, ⟨d1, d2, d3, d4, d5, d6⟩, ⟨d7, d8, d9, d10, d11, d12⟩⟩ 70 _ _ _ _ (by first | decide | assumption) (by first | decide | exact n12 (by assumption) | exact n60 (by assumption)) (by first | decide | omega) (by first | decide | omega)
set_option maxHeartbeats 4000000 in
theorem sX1_with {a0 : Int64} {a1 : Int64} (hQ : ∀ v : Int64, Q (.inl (some (.long v))) w) : WP (MX1_with g) Q (0, [some (.long a0), none, some (.long a1), none], [], w, 0, 0) := by
  simp only [eX1_with_0]
  with_reducible refine And.intro ?_ ?_
  omega
  with_reducible refine And.intro ?_ ?_
  omega
  with_reducible exact hQ _
end
end
/-! 67.22.class5.lean.txt -/
section
section
variable {g : RO} {Q : Ot → Hw → Prop} {w0 w : Hw} {x nA cA lA : Nat} {kn : Int32}
set_option maxHeartbeats 4000000 in
theorem lX1_withHouse_5 {a0 : Int64} (hC : CC g w0 x nA cA lA kn w) (hQ : ∀ v : Int64, Q (.inl (some (.long v))) w) : ∀ (n rf md : Int32) (f : Nat → Int64) (gc gl : Nat → Option Nat), RO5 g w x nA cA lA n rf kn md f gc gl → ∀ (d : Nat) (i3 : Int64) (i5 : Int32) (k m : Nat), ¬ i5 < 0 → (4 : Int32).toInt + 1 - i5.toInt ≤ (d : Int) → k ≤ 0 → m ≤ 0 → WP (MX1_withHouse g) Q (5, [some (.ref x), some (.long a0), none, some (.long i3), none, some (.int i5)], [], w, k, m) := by
  rintro n rf md f gc gl ⟨hx, hn, hc, hl, hgc, hgl, hn0, hn1, rx, rn, rc, rl, ⟨d1, d2, d3, d4, d5, d6⟩, ⟨d7, d8, d9, d10, d11, d12⟩⟩ d
  induction d with
  | zero =>
    intro i3 i5 k m z0 hm hk hs
    rw [eX1_withHouse_5]
    simp only [eX1_withHouse_7, eX1_withHouse_11, eX1_withHouse_29, rx, go_s, wt_nil, wt_long, true_and, Nat.add_zero]
    split
    with_reducible refine And.intro ?_ ?_
    with_reducible assumption
    with_reducible refine And.intro ?_ ?_
    with_reducible assumption
    with_reducible exact hQ _
    with_reducible refine And.intro ?_ ?_
    with_reducible exact (ic_zl (by assumption) (by assumption)).elim
    with_reducible refine And.intro ?_ ?_
    with_reducible assumption
    with_reducible refine And.intro ?_ ?_
    with_reducible assumption
    with_reducible exact (ic_zl (by assumption) (by assumption)).elim
  | succ d ih =>
    intro i3 i5 k m z0 hm hk hs
    rw [eX1_withHouse_5]
    simp only [eX1_withHouse_7, eX1_withHouse_11, eX1_withHouse_29, rx, go_s, wt_nil, wt_long, true_and, Nat.add_zero]
    split
    with_reducible refine And.intro ?_ ?_
    with_reducible assumption
    with_reducible refine And.intro ?_ ?_
    with_reducible assumption
    with_reducible exact hQ _
    with_reducible refine And.intro ?_ ?_
    omega
    with_reducible refine And.intro ?_ ?_
    with_reducible assumption
    with_reducible refine And.intro ?_ ?_
    with_reducible assumption
    with_reducible refine sX1_houseCount (by first | assumption | exact CC.ext (by assumption) (by assumption)) ?_
    simp only [eX1_withHouse_18, kx_l, wt_nil, tl_s, Nat.add_zero]
    with_reducible intro _
    with_reducible refine And.intro ?_ ?_
    omega
    with_reducible refine And.intro ?_ ?_
    with_reducible assumption
    with_reducible refine And.intro ?_ ?_
    with_reducible assumption
    with_reducible refine sX1_with ?_
    simp only [eX1_withHouse_22, kx_l, nl_none, tl_s]
    with_reducible intro _
    with_reducible exact ih _ _ _ _ (ic_pl (by assumption) (by assumption) (by decide)) (ic_sl (by assumption) (by assumption) (by decide)) (by first | assumption | omega) (by first | assumption | omega)
set_option maxHeartbeats 4000000 in
theorem sX1_withHouse {a0 : Int64} (hC : CC g w0 x nA cA lA kn w) (hQ : ∀ v : Int64, Q (.inl (some (.long v))) w) : WP (MX1_withHouse g) Q (0, [some (.ref x), some (.long a0), none, none, none, none], [], w, 0, 0) := by
  obtain ⟨n, rf, md, f, gc, gl, hx, hn, hc, hl, hgc, hgl, hn0, hn1, rx, rn, rc, rl, ⟨d1, d2, d3, d4, d5, d6⟩, ⟨d7, d8, d9, d10, d11, d12⟩⟩ := hC.1.opn g
  simp only [eX1_withHouse_0, nl_none]
  with_reducible exact lX1_withHouse_5 hC hQ _ _ _ _ _ _ ⟨hx, hn, hc, hl, hgc, hgl, hn0, hn1, rx, rn, rc, rl, ⟨d1, d2, d3, d4, d5, d6⟩, ⟨d7, d8, d9, d10, d11, d12⟩⟩ 70 _ _ _ _ (by first | decide | assumption) (by first | decide | exact n12 (by assumption) | exact n60 (by assumption)) (by first | decide | omega) (by first | decide | omega)
set_option maxHeartbeats 4000000 in
theorem sX1_withNumber {a0 : Int64} {a1 : Int64} (hC : CC g w0 x nA cA lA kn w) (hQ : ∀ v : Int64, Q (.inl (some (.long v))) w) : WP (MX1_withNumber g) Q (0, [some (.ref x), some (.long a0), none, some (.long a1), none, none, none], [], w, 0, 0) := by
  obtain ⟨n, rf, md, f, gc, gl, hx, hn, hc, hl, hgc, hgl, hn0, hn1, rx, rn, rc, rl, ⟨d1, d2, d3, d4, d5, d6⟩, ⟨d7, d8, d9, d10, d11, d12⟩⟩ := hC.1.opn g
  simp only [eX1_withNumber_0, wt_nil, wt_long, Nat.add_zero]
  with_reducible refine And.intro ?_ ?_
  omega
  with_reducible refine And.intro ?_ ?_
  omega
  with_reducible refine And.intro ?_ ?_
  omega
  with_reducible refine sX1_highOf ?_
  simp only [eX1_withNumber_5, kx_l, wt_nil, tl_s, Nat.add_zero]
  with_reducible intro _
  with_reducible refine And.intro ?_ ?_
  omega
  with_reducible refine And.intro ?_ ?_
  omega
  with_reducible refine And.intro ?_ ?_
  omega
  with_reducible refine sX1_with ?_
  simp only [eX1_withNumber_9, kx_l, wt_nil, wt_long, nl_none, tl_s, Nat.add_zero]
  with_reducible intro _
  with_reducible refine And.intro ?_ ?_
  omega
  with_reducible refine And.intro ?_ ?_
  omega
  with_reducible refine And.intro ?_ ?_
  omega
  with_reducible refine sX1_lowOf ?_
  simp only [eX1_withNumber_17, kx_l, wt_nil, tl_s, Nat.add_zero]
  with_reducible intro _
  with_reducible refine And.intro ?_ ?_
  omega
  with_reducible refine And.intro ?_ ?_
  omega
  with_reducible refine And.intro ?_ ?_
  omega
  with_reducible refine sX1_with ?_
  simp only [eX1_withNumber_21, rx, kx_l, go_s, wt_nil, wt_long, nl_none, tl_s, true_and, Nat.add_zero]
  with_reducible intro _
  with_reducible refine And.intro ?_ ?_
  omega
  with_reducible refine And.intro ?_ ?_
  omega
  with_reducible refine And.intro ?_ ?_
  omega
  with_reducible refine sX1_holdersOf (by first | assumption | exact CC.ext (by assumption) (by assumption)) ?_
  simp only [eX1_withNumber_31, kx_l, wt_nil, tl_s, Nat.add_zero]
  with_reducible intro _
  with_reducible refine And.intro ?_ ?_
  omega
  with_reducible refine And.intro ?_ ?_
  omega
  with_reducible refine And.intro ?_ ?_
  omega
  with_reducible refine sX1_with ?_
  simp only [eX1_withNumber_35, rx, kx_l, go_s, wt_nil, wt_long, nl_none, tl_s, true_and, Nat.add_zero]
  with_reducible intro _
  with_reducible refine And.intro ?_ ?_
  omega
  with_reducible refine And.intro ?_ ?_
  omega
  with_reducible refine And.intro ?_ ?_
  omega
  with_reducible refine sX1_holdersOf (by first | assumption | exact CC.ext (by assumption) (by assumption)) ?_
  simp only [eX1_withNumber_45, kx_l, wt_nil, tl_s, Nat.add_zero]
  with_reducible intro _
  with_reducible refine And.intro ?_ ?_
  omega
  with_reducible refine And.intro ?_ ?_
  omega
  with_reducible refine And.intro ?_ ?_
  omega
  with_reducible refine sX1_with ?_
  simp only [eX1_withNumber_49, kx_l, tl_s]
  with_reducible intro _
  with_reducible refine And.intro ?_ ?_
  omega
  with_reducible refine And.intro ?_ ?_
  omega
  with_reducible exact hQ _
set_option maxHeartbeats 4000000 in
theorem lX1_withEnds_5 {a0 : Int64} {a1 : Nat} (h1 : isR w a1) (hQ : ∀ v : Int64, Q (.inl (some (.long v))) w) : ∀ (d : Nat) (i3 : Int64) (i5 : Int32) (i6 : Option Value) (i7 : Option Value) (k m : Nat), ¬ i5 < 0 → (4 : Int32).toInt - i5.toInt ≤ (d : Int) → k ≤ 0 → m ≤ 0 → WP (MX1_withEnds g) Q (5, [some (.long a0), none, some (.ref a1), some (.long i3), none, some (.int i5), i6, i7], [], w, k, m) := by
  intro d
  induction d with
  | zero =>
    intro i3 i5 i6 i7 k m z0 hm hk hs
    rw [eX1_withEnds_5]
    simp only [eX1_withEnds_7, eX1_withEnds_11, eX1_withEnds_73, ite_le, wt_nil, Nat.add_zero]
    split
    with_reducible refine And.intro ?_ ?_
    with_reducible exact (ic_z (by assumption) (by assumption)).elim
    with_reducible refine And.intro ?_ ?_
    with_reducible exact (ic_z (by assumption) (by assumption)).elim
    with_reducible refine And.intro ?_ ?_
    with_reducible assumption
    with_reducible refine And.intro ?_ ?_
    with_reducible assumption
    with_reducible exact (ic_z (by assumption) (by assumption)).elim
    with_reducible refine And.intro ?_ ?_
    with_reducible assumption
    with_reducible refine And.intro ?_ ?_
    with_reducible assumption
    with_reducible exact hQ _
  | succ d ih =>
    intro i3 i5 i6 i7 k m z0 hm hk hs
    rw [eX1_withEnds_5]
    simp only [eX1_withEnds_7, eX1_withEnds_11, eX1_withEnds_73, ite_le, wt_nil, Nat.add_zero]
    split
    with_reducible refine And.intro ?_ ?_
    with_reducible refine go_R (by assumption) ?_
    with_reducible intro _
    with_reducible intro _
    with_reducible intro _
    with_reducible intro _
    simp only []
    with_reducible refine And.intro ?_ ?_
    omega
    with_reducible refine And.intro ?_ ?_
    with_reducible assumption
    with_reducible refine And.intro ?_ ?_
    with_reducible assumption
    with_reducible refine sX0_endAt (by first | assumption | exact hgc _ _ (by assumption) | exact hgl _ _ (by assumption) | exact isR.ext (by assumption) (by assumption)) ?_
    simp only [eX1_withEnds_17, kx_l, wt_nil, wt_long, nl_int, tl_s, Nat.add_zero]
    with_reducible intro _
    with_reducible refine And.intro ?_ ?_
    omega
    with_reducible refine And.intro ?_ ?_
    with_reducible assumption
    with_reducible refine And.intro ?_ ?_
    with_reducible assumption
    with_reducible refine sX1_highOf ?_
    simp only [eX1_withEnds_25, kx_l, wt_nil, tl_s, Nat.add_zero]
    with_reducible intro _
    with_reducible refine And.intro ?_ ?_
    omega
    with_reducible refine And.intro ?_ ?_
    with_reducible assumption
    with_reducible refine And.intro ?_ ?_
    with_reducible assumption
    with_reducible refine sX1_with ?_
    simp only [eX1_withEnds_29, kx_l, wt_nil, wt_long, nl_ref, tl_s, Nat.add_zero]
    with_reducible intro _
    with_reducible refine And.intro ?_ ?_
    omega
    with_reducible refine And.intro ?_ ?_
    with_reducible assumption
    with_reducible refine And.intro ?_ ?_
    with_reducible assumption
    with_reducible refine sX1_lowOf ?_
    simp only [eX1_withEnds_36, kx_l, wt_nil, tl_s, Nat.add_zero]
    with_reducible intro _
    with_reducible refine And.intro ?_ ?_
    omega
    with_reducible refine And.intro ?_ ?_
    with_reducible assumption
    with_reducible refine And.intro ?_ ?_
    with_reducible assumption
    with_reducible refine sX1_with ?_
    simp only [eX1_withEnds_40, eX1_withEnds_42, kx_l, wt_nil, wt_long, nl_ref, tl_s, Nat.add_zero]
    with_reducible intro _
    with_reducible refine And.intro ?_ ?_
    omega
    with_reducible refine And.intro ?_ ?_
    with_reducible assumption
    with_reducible refine And.intro ?_ ?_
    with_reducible assumption
    with_reducible refine sX1_neighboursIn (by first | assumption | exact hgc _ _ (by assumption) | exact hgl _ _ (by assumption) | exact isR.ext (by assumption) (by assumption)) ?_
    simp only [eX1_withEnds_49, kx_l, wt_nil, tl_s, Nat.add_zero]
    with_reducible intro _
    with_reducible refine And.intro ?_ ?_
    omega
    with_reducible refine And.intro ?_ ?_
    with_reducible assumption
    with_reducible refine And.intro ?_ ?_
    with_reducible assumption
    with_reducible refine sX1_with ?_
    simp only [eX1_withEnds_53, eX1_withEnds_55, kx_l, wt_nil, wt_long, nl_ref, tl_s, Nat.add_zero]
    with_reducible intro _
    with_reducible refine And.intro ?_ ?_
    omega
    with_reducible refine And.intro ?_ ?_
    with_reducible assumption
    with_reducible refine And.intro ?_ ?_
    with_reducible assumption
    with_reducible refine sX1_neighboursIn (by first | assumption | exact hgc _ _ (by assumption) | exact hgl _ _ (by assumption) | exact isR.ext (by assumption) (by assumption)) ?_
    simp only [eX1_withEnds_62, kx_l, wt_nil, tl_s, Nat.add_zero]
    with_reducible intro _
    with_reducible refine And.intro ?_ ?_
    omega
    with_reducible refine And.intro ?_ ?_
    with_reducible assumption
    with_reducible refine And.intro ?_ ?_
    with_reducible assumption
    with_reducible refine sX1_with ?_
    simp only [eX1_withEnds_66, kx_l, nl_ref, nl_none, tl_s]
    with_reducible intro _
    with_reducible exact ih _ _ _ _ _ _ (ic_p (by assumption) (by assumption)) (ic_s (by assumption) (by assumption)) (by first | assumption | omega) (by first | assumption | omega)
    with_reducible refine And.intro ?_ ?_
    with_reducible assumption
    with_reducible refine And.intro ?_ ?_
    with_reducible assumption
    with_reducible exact hQ _
set_option maxHeartbeats 4000000 in
theorem sX1_withEnds {a0 : Int64} {a1 : Nat} (h1 : isR w a1) (hQ : ∀ v : Int64, Q (.inl (some (.long v))) w) : WP (MX1_withEnds g) Q (0, [some (.long a0), none, some (.ref a1), none, none, none, none, none], [], w, 0, 0) := by
  simp only [eX1_withEnds_0, nl_ref, nl_none]
  with_reducible exact lX1_withEnds_5 h1 hQ 70 _ _ _ _ _ _ (by first | decide | assumption) (by first | decide | exact n12 (by assumption) | exact n60 (by assumption)) (by first | decide | omega) (by first | decide | omega)
end
end
/-! 67.22.class6.lean.txt -/
section
section
variable {g : RO} {Q : Ot → Hw → Prop} {w0 w : Hw} {x nA cA lA : Nat} {kn : Int32}
set_option maxHeartbeats 4000000 in
theorem lX1_withCard_106R {a0 : Int64} {a1 : Nat} (hC : CC g w0 x nA cA lA kn w) (h1 : isR w a1) (hQ : ∀ v : Int64, Q (.inl (some (.long v))) w) : ∀ (n rf md : Int32) (f : Nat → Int64) (gc gl : Nat → Option Nat), RO5 g w x nA cA lA n rf kn md f gc gl → ∀ (d : Nat) (i4 : Int64) (i6 : Int32) (k m : Nat), (1 : Int32).toInt + 1 - i6.toInt ≤ (d : Int) → k ≤ 0 → m ≤ 0 → WP (MX1_withCard g) Q (106, [some (.ref x), some (.long a0), none, some (.ref a1), some (.long i4), none, some (.int i6)], [], w, k, m) := by
  rintro n rf md f gc gl ⟨hx, hn, hc, hl, hgc, hgl, hn0, hn1, rx, rn, rc, rl, ⟨d1, d2, d3, d4, d5, d6⟩, ⟨d7, d8, d9, d10, d11, d12⟩⟩ d
  induction d with
  | zero =>
    intro i4 i6 k m hm hk hs
    rw [eX1_withCard_106]
    simp only [eX1_withCard_108, eX1_withCard_112, eX1_withCard_133, wt_nil, wt_long, Nat.add_zero]
    split
    with_reducible refine And.intro ?_ ?_
    with_reducible assumption
    with_reducible refine And.intro ?_ ?_
    with_reducible assumption
    with_reducible exact hQ _
    with_reducible refine And.intro ?_ ?_
    with_reducible exact (ic_zl (by assumption) (by assumption)).elim
    with_reducible refine And.intro ?_ ?_
    with_reducible assumption
    with_reducible refine And.intro ?_ ?_
    with_reducible assumption
    with_reducible exact (ic_zl (by assumption) (by assumption)).elim
  | succ d ih =>
    intro i4 i6 k m hm hk hs
    rw [eX1_withCard_106]
    simp only [eX1_withCard_108, eX1_withCard_112, eX1_withCard_133, wt_nil, wt_long, Nat.add_zero]
    split
    with_reducible refine And.intro ?_ ?_
    with_reducible assumption
    with_reducible refine And.intro ?_ ?_
    with_reducible assumption
    with_reducible exact hQ _
    with_reducible refine And.intro ?_ ?_
    omega
    with_reducible refine And.intro ?_ ?_
    with_reducible assumption
    with_reducible refine And.intro ?_ ?_
    with_reducible assumption
    with_reducible refine sX1_validityIn (by first | assumption | exact hgc _ _ (by assumption) | exact hgl _ _ (by assumption) | exact isR.ext (by assumption) (by assumption)) ?_
    simp only [eX1_withCard_121, kx_l, wt_nil, tl_s, Nat.add_zero]
    with_reducible intro _
    with_reducible refine And.intro ?_ ?_
    omega
    with_reducible refine And.intro ?_ ?_
    with_reducible assumption
    with_reducible refine And.intro ?_ ?_
    with_reducible assumption
    with_reducible refine sX1_with ?_
    simp only [eX1_withCard_125, kx_l, nl_ref, nl_none, tl_s]
    with_reducible intro _
    with_reducible exact ih _ _ _ _ (ic_sl (by assumption) (by assumption) (by decide)) (by first | assumption | omega) (by first | assumption | omega)
set_option maxHeartbeats 4000000 in
theorem sX1_withCardR {a0 : Int64} {a1 : Nat} (hC : CC g w0 x nA cA lA kn w) (h1 : isR w a1) (hQ : ∀ v : Int64, Q (.inl (some (.long v))) w) : WP (MX1_withCard g) Q (0, [some (.ref x), some (.long a0), none, some (.ref a1), none, none, none], [], w, 0, 0) := by
  obtain ⟨n, rf, md, f, gc, gl, hx, hn, hc, hl, hgc, hgl, hn0, hn1, rx, rn, rc, rl, ⟨d1, d2, d3, d4, d5, d6⟩, ⟨d7, d8, d9, d10, d11, d12⟩⟩ := hC.1.opn g
  simp only [eX1_withCard_0, eX1_withCard_1R, eX1_withCard_10, eX1_withCard_15, wt_nil, Nat.add_zero]
  with_reducible refine And.intro ?_ ?_
  omega
  with_reducible refine And.intro ?_ ?_
  omega
  with_reducible refine And.intro ?_ ?_
  omega
  with_reducible refine sX1_with ?_
  simp only [eX1_withCard_16R, kx_l, wt_nil, tl_s, Nat.add_zero]
  with_reducible intro _
  with_reducible refine And.intro ?_ ?_
  omega
  with_reducible refine And.intro ?_ ?_
  omega
  with_reducible refine And.intro ?_ ?_
  omega
  with_reducible refine sX1_withEnds (by first | assumption | exact hgc _ _ (by assumption) | exact hgl _ _ (by assumption) | exact isR.ext (by assumption) (by assumption)) ?_
  simp only [eX1_withCard_19, eX1_withCard_23, kx_l, wt_nil, wt_long, nl_ref, tl_s, Nat.add_zero]
  with_reducible intro _
  with_reducible refine And.intro ?_ ?_
  with_reducible refine go_R (by first | assumption | exact hgc _ _ (by assumption) | exact hgl _ _ (by assumption) | exact isR.ext (by assumption) (by assumption)) ?_
  with_reducible intro _
  with_reducible intro _
  with_reducible intro _
  with_reducible intro _
  simp only []
  with_reducible refine And.intro ?_ ?_
  omega
  with_reducible refine And.intro ?_ ?_
  omega
  with_reducible refine And.intro ?_ ?_
  omega
  with_reducible refine sX0_isSettled (by first | assumption | exact hgc _ _ (by assumption) | exact hgl _ _ (by assumption) | exact isR.ext (by assumption) (by assumption)) ?_
  simp only [eX1_withCard_27, kx_l, wt_nil, wt_long, tl_s, Nat.add_zero]
  with_reducible intro _
  with_reducible refine And.intro ?_ ?_
  omega
  with_reducible refine And.intro ?_ ?_
  omega
  with_reducible refine And.intro ?_ ?_
  omega
  with_reducible refine sX1_asNumber ?_
  simp only [eX1_withCard_30, kx_l, wt_nil, tl_s, Nat.add_zero]
  with_reducible intro _
  with_reducible refine And.intro ?_ ?_
  omega
  with_reducible refine And.intro ?_ ?_
  omega
  with_reducible refine And.intro ?_ ?_
  omega
  with_reducible refine sX1_with ?_
  simp only [eX1_withCard_34, eX1_withCard_38, kx_l, wt_nil, wt_long, nl_ref, tl_s, Nat.add_zero]
  with_reducible intro _
  with_reducible refine And.intro ?_ ?_
  with_reducible refine go_R (by first | assumption | exact hgc _ _ (by assumption) | exact hgl _ _ (by assumption) | exact isR.ext (by assumption) (by assumption)) ?_
  with_reducible intro _
  with_reducible intro _
  with_reducible intro _
  with_reducible intro _
  simp only []
  with_reducible refine And.intro ?_ ?_
  omega
  with_reducible refine And.intro ?_ ?_
  omega
  with_reducible refine And.intro ?_ ?_
  omega
  with_reducible refine sX0_fitsSmall (by first | assumption | exact hgc _ _ (by assumption) | exact hgl _ _ (by assumption) | exact isR.ext (by assumption) (by assumption)) ?_
  simp only [eX1_withCard_42, kx_l, wt_nil, wt_long, tl_s, Nat.add_zero]
  with_reducible intro _
  with_reducible refine And.intro ?_ ?_
  omega
  with_reducible refine And.intro ?_ ?_
  omega
  with_reducible refine And.intro ?_ ?_
  omega
  with_reducible refine sX1_asNumber ?_
  simp only [eX1_withCard_45, kx_l, wt_nil, tl_s, Nat.add_zero]
  with_reducible intro _
  with_reducible refine And.intro ?_ ?_
  omega
  with_reducible refine And.intro ?_ ?_
  omega
  with_reducible refine And.intro ?_ ?_
  omega
  with_reducible refine sX1_with ?_
  simp only [eX1_withCard_49, eX1_withCard_54, rx, kx_l, go_s, wt_nil, wt_long, nl_ref, tl_s, true_and, Nat.add_zero]
  with_reducible intro _
  with_reducible refine And.intro ?_ ?_
  omega
  with_reducible refine And.intro ?_ ?_
  omega
  with_reducible refine And.intro ?_ ?_
  omega
  with_reducible refine sX1_cardsLike (by first | assumption | exact CC.ext (by assumption) (by assumption)) (by first | assumption | exact hgc _ _ (by assumption) | exact hgl _ _ (by assumption) | exact isR.ext (by assumption) (by assumption)) ?_
  simp only [eX1_withCard_58, kx_l, wt_nil, tl_s, Nat.add_zero]
  with_reducible intro _
  with_reducible refine And.intro ?_ ?_
  omega
  with_reducible refine And.intro ?_ ?_
  omega
  with_reducible refine And.intro ?_ ?_
  omega
  with_reducible refine sX1_with ?_
  simp only [eX1_withCard_62, eX1_withCard_67, rx, kx_l, go_s, wt_nil, wt_long, nl_ref, tl_s, true_and, Nat.add_zero]
  with_reducible intro _
  with_reducible refine And.intro ?_ ?_
  omega
  with_reducible refine And.intro ?_ ?_
  omega
  with_reducible refine And.intro ?_ ?_
  omega
  with_reducible refine sX1_firstPlaceOf (by first | assumption | exact CC.ext (by assumption) (by assumption)) (by first | assumption | exact hgc _ _ (by assumption) | exact hgl _ _ (by assumption) | exact isR.ext (by assumption) (by assumption)) ?_
  simp only [eX1_withCard_71, kx_l, wt_nil, tl_s, Nat.add_zero]
  with_reducible intro _
  with_reducible refine And.intro ?_ ?_
  omega
  with_reducible refine And.intro ?_ ?_
  omega
  with_reducible refine And.intro ?_ ?_
  omega
  with_reducible refine sX1_with ?_
  simp only [eX1_withCard_75, eX1_withCard_80, rx, kx_l, go_s, wt_nil, wt_long, nl_ref, tl_s, true_and, Nat.add_zero]
  with_reducible intro _
  with_reducible refine And.intro ?_ ?_
  omega
  with_reducible refine And.intro ?_ ?_
  omega
  with_reducible refine And.intro ?_ ?_
  omega
  with_reducible refine sX1_lastPlaceOf (by first | assumption | exact CC.ext (by assumption) (by assumption)) (by first | assumption | exact hgc _ _ (by assumption) | exact hgl _ _ (by assumption) | exact isR.ext (by assumption) (by assumption)) ?_
  simp only [eX1_withCard_84, kx_l, wt_nil, tl_s, Nat.add_zero]
  with_reducible intro _
  with_reducible refine And.intro ?_ ?_
  omega
  with_reducible refine And.intro ?_ ?_
  omega
  with_reducible refine And.intro ?_ ?_
  omega
  with_reducible refine sX1_with ?_
  simp only [eX1_withCard_88, eX1_withCard_93, rx, kx_l, go_s, wt_nil, wt_long, nl_ref, tl_s, true_and, Nat.add_zero]
  with_reducible intro _
  with_reducible refine And.intro ?_ ?_
  omega
  with_reducible refine And.intro ?_ ?_
  omega
  with_reducible refine And.intro ?_ ?_
  omega
  with_reducible refine sX1_timesLaid (by first | assumption | exact CC.ext (by assumption) (by assumption)) (by first | assumption | exact hgc _ _ (by assumption) | exact hgl _ _ (by assumption) | exact isR.ext (by assumption) (by assumption)) ?_
  simp only [eX1_withCard_97, kx_l, wt_nil, tl_s, Nat.add_zero]
  with_reducible intro _
  with_reducible refine And.intro ?_ ?_
  omega
  with_reducible refine And.intro ?_ ?_
  omega
  with_reducible refine And.intro ?_ ?_
  omega
  with_reducible refine sX1_with ?_
  simp only [eX1_withCard_101, kx_l, nl_ref, nl_none, tl_s]
  with_reducible intro _
  with_reducible exact lX1_withCard_106R hC h1 hQ _ _ _ _ _ _ ⟨hx, hn, hc, hl, hgc, hgl, hn0, hn1, rx, rn, rc, rl, ⟨d1, d2, d3, d4, d5, d6⟩, ⟨d7, d8, d9, d10, d11, d12⟩⟩ 70 _ _ _ _ (by first | decide | exact n12 (by assumption) | exact n60 (by assumption)) (by first | decide | omega) (by first | decide | omega)
set_option maxHeartbeats 4000000 in
theorem sX1_withCardN {a0 : Int64} (hC : CC g w0 x nA cA lA kn w) (hQ : ∀ v : Int64, Q (.inl (some (.long v))) w) : WP (MX1_withCard g) Q (0, [some (.ref x), some (.long a0), none, some .null, none, none, none], [], w, 0, 0) := by
  obtain ⟨n, rf, md, f, gc, gl, hx, hn, hc, hl, hgc, hgl, hn0, hn1, rx, rn, rc, rl, ⟨d1, d2, d3, d4, d5, d6⟩, ⟨d7, d8, d9, d10, d11, d12⟩⟩ := hC.1.opn g
  simp only [eX1_withCard_0N, eX1_withCard_1N, eX1_withCard_4, wt_nil, Nat.add_zero]
  with_reducible refine And.intro ?_ ?_
  omega
  with_reducible refine And.intro ?_ ?_
  omega
  with_reducible refine And.intro ?_ ?_
  omega
  with_reducible refine sX1_with ?_
  simp only [eX1_withCard_9, kx_l, tl_s]
  with_reducible intro _
  with_reducible refine And.intro ?_ ?_
  omega
  with_reducible refine And.intro ?_ ?_
  omega
  with_reducible exact hQ _
end
end
/-! 67.22.class7.lean.txt -/
section
section
variable {g : RO} {Q : Ot → Hw → Prop} {w0 w : Hw} {x nA cA lA : Nat} {kn : Int32}
theorem vp08 : vp_in 0 8 := vpi8 (by decide) (by decide)
theorem go_C (h : CC g w0 x nA cA lA kn w) : go (rd g w x) 5 (fun _ => True) := by
  obtain ⟨n, rf, md, f, gc, gl, hx, hn, hc, hl, hgc, hgl, hn0, hn1, rx, rn, rc, rl, ⟨d1, d2, d3, d4, d5, d6⟩, ⟨d7, d8, d9, d10, d11, d12⟩⟩ := h.1.opn g
  rw [rx, go_s]
  trivial
theorem isR.mono {w1 w2 : Hw} {b : Nat} (hm : ∀ b, isR w1 b → isR w2 b) (h : isR w1 b) : isR w2 b := hm b h
set_option maxHeartbeats 4000000 in
theorem lX1_withWhichAndPile_32 {a0 : Int64} (hC : CC g w0 x nA cA lA kn w) (hQ : ∀ v : Int64, Q (.inl (some (.long v))) w) : ∀ (n rf md : Int32) (f : Nat → Int64) (gc gl : Nat → Option Nat), RO5 g w x nA cA lA n rf kn md f gc gl → ∀ (d : Nat) (i3 : Int64) (i5 : Int32) (k m : Nat), ¬ i5 < 0 → (5 : Int32).toInt + 1 - i5.toInt ≤ (d : Int) → k ≤ 0 → m ≤ 0 → WP (MX1_withWhichAndPile g) Q (32, [some (.ref x), some (.long a0), none, some (.long i3), none, some (.int i5)], [], w, k, m) := by
  rintro n rf md f gc gl ⟨hx, hn, hc, hl, hgc, hgl, hn0, hn1, rx, rn, rc, rl, ⟨d1, d2, d3, d4, d5, d6⟩, ⟨d7, d8, d9, d10, d11, d12⟩⟩ d
  induction d with
  | zero =>
    intro i3 i5 k m z0 hm hk hs
    rw [eX1_withWhichAndPile_32]
    simp only [eX1_withWhichAndPile_34, eX1_withWhichAndPile_38, eX1_withWhichAndPile_44, eX1_withWhichAndPile_46, eX1_withWhichAndPile_62, rx, rn, go_s, gl_s, wt_nil, wt_long, g0, ex1, true_and, Nat.add_zero]
    split
    with_reducible refine And.intro ?_ ?_
    with_reducible assumption
    with_reducible refine And.intro ?_ ?_
    with_reducible assumption
    with_reducible exact hQ _
    with_reducible refine And.intro ?_ ?_
    with_reducible exact (ic_zl (by assumption) (by assumption)).elim
    with_reducible refine And.intro ?_ ?_
    with_reducible exact (ic_zl (by assumption) (by assumption)).elim
    with_reducible refine And.intro ?_ ?_
    with_reducible assumption
    with_reducible refine And.intro ?_ ?_
    with_reducible assumption
    with_reducible exact (ic_zl (by assumption) (by assumption)).elim
  | succ d ih =>
    intro i3 i5 k m z0 hm hk hs
    rw [eX1_withWhichAndPile_32]
    simp only [eX1_withWhichAndPile_34, eX1_withWhichAndPile_38, eX1_withWhichAndPile_44, eX1_withWhichAndPile_46, eX1_withWhichAndPile_62, rx, rn, go_s, gl_s, wt_nil, wt_long, g0, ex1, true_and, Nat.add_zero]
    split
    with_reducible refine And.intro ?_ ?_
    with_reducible assumption
    with_reducible refine And.intro ?_ ?_
    with_reducible assumption
    with_reducible exact hQ _
    with_reducible refine And.intro ?_ ?_
    with_reducible exact vp08
    with_reducible refine And.intro ?_ ?_
    omega
    with_reducible refine And.intro ?_ ?_
    with_reducible assumption
    with_reducible refine And.intro ?_ ?_
    with_reducible assumption
    with_reducible refine sX1_pileCount (by first | assumption | exact CC.ext (by assumption) (by assumption)) ?_
    simp only [eX1_withWhichAndPile_51, kx_l, wt_nil, tl_s, Nat.add_zero]
    with_reducible intro _
    with_reducible refine And.intro ?_ ?_
    omega
    with_reducible refine And.intro ?_ ?_
    with_reducible assumption
    with_reducible refine And.intro ?_ ?_
    with_reducible assumption
    with_reducible refine sX1_with ?_
    simp only [eX1_withWhichAndPile_55, kx_l, nl_none, tl_s]
    with_reducible intro _
    with_reducible exact ih _ _ _ _ (ic_pl (by assumption) (by assumption) (by decide)) (ic_sl (by assumption) (by assumption) (by decide)) (by first | assumption | omega) (by first | assumption | omega)
set_option maxHeartbeats 4000000 in
theorem lX1_withWhichAndPile_5 {a0 : Int64} (hC : CC g w0 x nA cA lA kn w) (hQ : ∀ v : Int64, Q (.inl (some (.long v))) w) : ∀ (n rf md : Int32) (f : Nat → Int64) (gc gl : Nat → Option Nat), RO5 g w x nA cA lA n rf kn md f gc gl → ∀ (d : Nat) (i3 : Int64) (i5 : Int32) (k m : Nat), ¬ i5 < 0 → (2 : Int32).toInt + 1 - i5.toInt ≤ (d : Int) → k ≤ 0 → m ≤ 0 → WP (MX1_withWhichAndPile g) Q (5, [some (.ref x), some (.long a0), none, some (.long i3), none, some (.int i5)], [], w, k, m) := by
  rintro n rf md f gc gl ⟨hx, hn, hc, hl, hgc, hgl, hn0, hn1, rx, rn, rc, rl, ⟨d1, d2, d3, d4, d5, d6⟩, ⟨d7, d8, d9, d10, d11, d12⟩⟩ d
  induction d with
  | zero =>
    intro i3 i5 k m z0 hm hk hs
    rw [eX1_withWhichAndPile_5]
    simp only [eX1_withWhichAndPile_7, eX1_withWhichAndPile_11, eX1_withWhichAndPile_29, rx, go_s, wt_nil, wt_long, nl_none, true_and, Nat.add_zero]
    split
    with_reducible exact lX1_withWhichAndPile_32 hC hQ _ _ _ _ _ _ ⟨hx, hn, hc, hl, hgc, hgl, hn0, hn1, rx, rn, rc, rl, ⟨d1, d2, d3, d4, d5, d6⟩, ⟨d7, d8, d9, d10, d11, d12⟩⟩ 70 _ _ _ _ (by first | decide | assumption) (by first | decide | exact n12 (by assumption) | exact n60 (by assumption)) (by first | decide | omega) (by first | decide | omega)
    with_reducible refine And.intro ?_ ?_
    with_reducible exact (ic_zl (by assumption) (by assumption)).elim
    with_reducible refine And.intro ?_ ?_
    with_reducible assumption
    with_reducible refine And.intro ?_ ?_
    with_reducible assumption
    with_reducible exact (ic_zl (by assumption) (by assumption)).elim
  | succ d ih =>
    intro i3 i5 k m z0 hm hk hs
    rw [eX1_withWhichAndPile_5]
    simp only [eX1_withWhichAndPile_7, eX1_withWhichAndPile_11, eX1_withWhichAndPile_29, rx, go_s, wt_nil, wt_long, nl_none, true_and, Nat.add_zero]
    split
    with_reducible exact lX1_withWhichAndPile_32 hC hQ _ _ _ _ _ _ ⟨hx, hn, hc, hl, hgc, hgl, hn0, hn1, rx, rn, rc, rl, ⟨d1, d2, d3, d4, d5, d6⟩, ⟨d7, d8, d9, d10, d11, d12⟩⟩ 70 _ _ _ _ (by first | decide | assumption) (by first | decide | exact n12 (by assumption) | exact n60 (by assumption)) (by first | decide | omega) (by first | decide | omega)
    with_reducible refine And.intro ?_ ?_
    omega
    with_reducible refine And.intro ?_ ?_
    with_reducible assumption
    with_reducible refine And.intro ?_ ?_
    with_reducible assumption
    with_reducible refine sX1_cardsThatAre (by first | assumption | exact CC.ext (by assumption) (by assumption)) ?_ (by first | assumption | decide) (by first | assumption | decide)
    simp only [eX1_withWhichAndPile_18, kx_l, wt_nil, tl_s, Nat.add_zero]
    with_reducible intro _
    with_reducible refine And.intro ?_ ?_
    omega
    with_reducible refine And.intro ?_ ?_
    with_reducible assumption
    with_reducible refine And.intro ?_ ?_
    with_reducible assumption
    with_reducible refine sX1_with ?_
    simp only [eX1_withWhichAndPile_22, kx_l, nl_none, tl_s]
    with_reducible intro _
    with_reducible exact ih _ _ _ _ (ic_pl (by assumption) (by assumption) (by decide)) (ic_sl (by assumption) (by assumption) (by decide)) (by first | assumption | omega) (by first | assumption | omega)
set_option maxHeartbeats 4000000 in
theorem sX1_withWhichAndPile {a0 : Int64} (hC : CC g w0 x nA cA lA kn w) (hQ : ∀ v : Int64, Q (.inl (some (.long v))) w) : WP (MX1_withWhichAndPile g) Q (0, [some (.ref x), some (.long a0), none, none, none, none], [], w, 0, 0) := by
  obtain ⟨n, rf, md, f, gc, gl, hx, hn, hc, hl, hgc, hgl, hn0, hn1, rx, rn, rc, rl, ⟨d1, d2, d3, d4, d5, d6⟩, ⟨d7, d8, d9, d10, d11, d12⟩⟩ := hC.1.opn g
  simp only [eX1_withWhichAndPile_0, nl_none]
  with_reducible exact lX1_withWhichAndPile_5 hC hQ _ _ _ _ _ _ ⟨hx, hn, hc, hl, hgc, hgl, hn0, hn1, rx, rn, rc, rl, ⟨d1, d2, d3, d4, d5, d6⟩, ⟨d7, d8, d9, d10, d11, d12⟩⟩ 70 _ _ _ _ (by first | decide | assumption) (by first | decide | exact n12 (by assumption) | exact n60 (by assumption)) (by first | decide | omega) (by first | decide | omega)
end
end
/-! 67.23.pub2.lean.txt -/
section
section
variable {g : RO} {Q : Ot → Hw → Prop} {w0 w : Hw} {x nA cA lA : Nat} {kn : Int32}
theorem sX1_rangeOf2 {a0 : Int32} (hC : CC g w0 x nA cA lA kn w) (hXo : Q (.inr "java/lang/IndexOutOfBoundsException") w) (hXs : Q (.inr "java/lang/IllegalStateException") w) (hQ : ∀ b, ¬ a0 < 0 → a0 < 6 → isR w b → Q (.inl (some (.ref b))) w) : WP (MX1_rangeOf g) Q (0, [some (.ref x), some (.int a0), none], [], w, 0, 0) := by
  obtain ⟨n, rf, md, f, gc, gl, hx, hn, hc, hl, hgc, hgl, hn0, hn1, rx, rn, rc, rl, ⟨d1, d2, d3, d4, d5, d6⟩, ⟨d7, d8, d9, d10, d11, d12⟩⟩ := hC.1.opn g
  simp only [eX1_rangeOf_0, eX1_rangeOf_4, eX1_rangeOf_8, wt_nil, Nat.zero_add]
  with_reducible refine And.intro ?_ ?_
  omega
  with_reducible refine And.intro ?_ ?_
  omega
  with_reducible refine And.intro ?_ ?_
  omega
  with_reducible refine sX1_needCard ?_ ?_
  simp only [kx_r]
  with_reducible assumption
  simp only [eX1_rangeOf_9, eX1_rangeOf_10, eX1_rangeOf_10N, eX1_rangeOf_11, eX1_rangeOf_11N, eX1_rangeOf_12R, eX1_rangeOf_12N, eX1_rangeOf_15, eX1_rangeOf_25, rx, rc, n45, or_false, kx_l, go_s, gq_s, wt_nil, nl_int, rf_st, tl_n, g0, gS, ex1, true_and]
  with_reducible intro _
  with_reducible intro _
  with_reducible refine And.intro ?_ ?_
  with_reducible exact vpi6 (by assumption) (by assumption)
  with_reducible refine And.intro ?_ ?_
  with_reducible intro _
  with_reducible refine And.intro ?_ ?_
  omega
  with_reducible refine And.intro ?_ ?_
  omega
  with_reducible refine And.intro ?_ ?_
  omega
  with_reducible refine And.intro ?_ ?_
  omega
  with_reducible assumption
  with_reducible intro _
  with_reducible intro _
  with_reducible refine And.intro ?_ ?_
  omega
  with_reducible refine And.intro ?_ ?_
  omega
  with_reducible exact hQ _ (by assumption) (by assumption) (hgc _ _ (by assumption))
end
end
/-! 67.23.pub3.lean.txt -/
section
section
variable {g : RO} {Q : Ot → Hw → Prop} {w0 w : Hw} {x nA cA lA : Nat} {kn : Int32}
set_option maxHeartbeats 4000000 in
theorem lX1_count_38 {a0 : Int32} {a1 : Int32} {a2 : Int32} {b4 : Nat} (hC : CC g w0 x nA cA lA kn w) (hb4 : isR w b4) (hXo : Q (.inr "java/lang/IndexOutOfBoundsException") w) (hXa : Q (.inr "java/lang/IllegalArgumentException") w) (hXs : Q (.inr "java/lang/IllegalStateException") w) (hQ : ∀ v : Int32, Q (.inl (some (.int v))) w) : ∀ (n rf md : Int32) (f : Nat → Int64) (gc gl : Nat → Option Nat), RO5 g w x nA cA lA n rf kn md f gc gl → ∀ (d : Nat) (i5 : Int32) (i6 : Int32) (k m : Nat), ¬ i6 < 0 → (a2 : Int32).toInt - i6.toInt ≤ (d : Int) → k ≤ 4 → m ≤ 24 → WP (MX1_count g) Q (38, [some (.ref x), some (.int a0), some (.int a1), some (.int a2), some (.ref b4), some (.int i5), some (.int i6)], [], w, k, m) := by
  rintro n rf md f gc gl ⟨hx, hn, hc, hl, hgc, hgl, hn0, hn1, rx, rn, rc, rl, ⟨d1, d2, d3, d4, d5, d6⟩, ⟨d7, d8, d9, d10, d11, d12⟩⟩ d
  induction d with
  | zero =>
    intro i5 i6 k m z0 hm hk hs
    rw [eX1_count_38]
    simp only [eX1_count_40, eX1_count_44, eX1_count_69, ite_le, wt_nil, wt_int, Nat.add_zero]
    split
    with_reducible refine And.intro ?_ ?_
    with_reducible exact (ic_z (by assumption) (by assumption)).elim
    with_reducible refine And.intro ?_ ?_
    with_reducible exact (ic_z (by assumption) (by assumption)).elim
    with_reducible refine And.intro ?_ ?_
    with_reducible assumption
    with_reducible refine And.intro ?_ ?_
    with_reducible assumption
    with_reducible exact (ic_z (by assumption) (by assumption)).elim
    with_reducible refine And.intro ?_ ?_
    with_reducible assumption
    with_reducible refine And.intro ?_ ?_
    with_reducible assumption
    with_reducible exact hQ _
  | succ d ih =>
    intro i5 i6 k m z0 hm hk hs
    rw [eX1_count_38]
    simp only [eX1_count_40, eX1_count_44, eX1_count_69, ite_le, wt_nil, wt_int, Nat.add_zero]
    split
    with_reducible refine And.intro ?_ ?_
    with_reducible refine go_R (by first | assumption | exact hgc _ _ (by assumption) | exact hgl _ _ (by assumption) | exact isR.ext (by assumption) (by assumption) | exact isR.mono (by assumption) (by first | assumption | exact isR.ext (by assumption) (by assumption)) | exact isR_up2 (by first | assumption | exact hgc _ _ (by assumption)) hc (by simp)) ?_
    with_reducible intro _
    with_reducible intro _
    with_reducible intro _
    with_reducible intro _
    simp only []
    with_reducible refine And.intro ?_ ?_
    omega
    with_reducible refine And.intro ?_ ?_
    with_reducible assumption
    with_reducible refine And.intro ?_ ?_
    with_reducible assumption
    with_reducible refine sX0_holds (by first | assumption | exact hgc _ _ (by assumption) | exact hgl _ _ (by assumption) | exact isR.ext (by assumption) (by assumption) | exact isR.mono (by assumption) (by first | assumption | exact isR.ext (by assumption) (by assumption)) | exact isR_up2 (by first | assumption | exact hgc _ _ (by assumption)) hc (by simp)) ?_
    simp only [eX1_count_57, kx_l, wt_nil, wt_int, tl_s, Nat.add_zero]
    with_reducible intro _
    with_reducible refine And.intro ?_ ?_
    omega
    with_reducible refine And.intro ?_ ?_
    with_reducible assumption
    with_reducible refine And.intro ?_ ?_
    with_reducible assumption
    with_reducible refine sX1_asNumber ?_
    simp only [eX1_count_60, kx_l, nl_int, nl_ref, tl_s]
    with_reducible intro _
    with_reducible exact ih _ _ _ _ (ic_p (by assumption) (by assumption)) (ic_s (by assumption) (by assumption)) (by first | assumption | omega) (by first | assumption | omega)
    with_reducible refine And.intro ?_ ?_
    with_reducible assumption
    with_reducible refine And.intro ?_ ?_
    with_reducible assumption
    with_reducible exact hQ _
set_option maxHeartbeats 4000000 in
theorem sX1_count {a0 : Int32} {a1 : Int32} {a2 : Int32} (hC : CC g w0 x nA cA lA kn w) (hXo : Q (.inr "java/lang/IndexOutOfBoundsException") w) (hXa : Q (.inr "java/lang/IllegalArgumentException") w) (hXs : Q (.inr "java/lang/IllegalStateException") w) (hQ : ∀ v : Int32, Q (.inl (some (.int v))) w) : WP (MX1_count g) Q (0, [some (.ref x), some (.int a0), some (.int a1), some (.int a2), none, none, none], [], w, 0, 0) := by
  obtain ⟨n, rf, md, f, gc, gl, hx, hn, hc, hl, hgc, hgl, hn0, hn1, rx, rn, rc, rl, ⟨d1, d2, d3, d4, d5, d6⟩, ⟨d7, d8, d9, d10, d11, d12⟩⟩ := hC.1.opn g
  simp only [eX1_count_0, eX1_count_4, eX1_count_9, eX1_count_15, eX1_count_25, ite_le, wt_nil, Nat.zero_add]
  with_reducible refine And.intro ?_ ?_
  omega
  with_reducible refine And.intro ?_ ?_
  omega
  with_reducible refine And.intro ?_ ?_
  omega
  with_reducible refine sX1_needCard ?_ ?_
  simp only [kx_r]
  with_reducible assumption
  simp only [rx, kx_l, go_s, wt_nil, tl_n, true_and]
  split
  with_reducible intro _
  with_reducible intro _
  with_reducible refine And.intro ?_ ?_
  omega
  with_reducible refine And.intro ?_ ?_
  omega
  with_reducible refine And.intro ?_ ?_
  omega
  with_reducible refine And.intro ?_ ?_
  omega
  with_reducible assumption
  split
  with_reducible intro _
  with_reducible intro _
  with_reducible refine And.intro ?_ ?_
  omega
  with_reducible refine And.intro ?_ ?_
  omega
  with_reducible refine And.intro ?_ ?_
  omega
  with_reducible refine And.intro ?_ ?_
  omega
  with_reducible assumption
  with_reducible intro _
  with_reducible intro _
  with_reducible refine And.intro ?_ ?_
  omega
  with_reducible refine And.intro ?_ ?_
  omega
  with_reducible refine And.intro ?_ ?_
  omega
  with_reducible refine sX1_rangeOf2 (by first | assumption | exact CC.ext (by assumption) (by assumption)) ?_ ?_ ?_
  simp only [kx_r]
  with_reducible assumption
  simp only [kx_r]
  with_reducible assumption
  simp only [eX1_count_30, kx_l, nl_int, nl_ref, tl_s]
  with_reducible intro _
  with_reducible intro _
  with_reducible intro _
  with_reducible intro _
  with_reducible exact lX1_count_38 hC (by first | assumption | exact hgc _ _ (by assumption) | exact hgl _ _ (by assumption) | exact isR.ext (by assumption) (by assumption) | exact isR.mono (by assumption) (by first | assumption | exact isR.ext (by assumption) (by assumption)) | exact isR_up2 (by first | assumption | exact hgc _ _ (by assumption)) hc (by simp)) hXo hXa hXs hQ _ _ _ _ _ _ ⟨hx, hn, hc, hl, hgc, hgl, hn0, hn1, rx, rn, rc, rl, ⟨d1, d2, d3, d4, d5, d6⟩, ⟨d7, d8, d9, d10, d11, d12⟩⟩ 70 _ _ _ _ (by first | decide | assumption) (by first | decide | exact n12 (by assumption) | exact n60 (by assumption)) (by first | decide | omega) (by first | decide | omega)
end
end
/-! 67.23.pub4.lean.txt -/
section
section
variable {g : RO} {Q : Ot → Hw → Prop} {w0 w : Hw} {x nA cA lA : Nat} {kn : Int32}
set_option maxHeartbeats 4000000 in
theorem sX1_who {a0 : Int32} {a1 : Int32} (hC : CC g w0 x nA cA lA kn w) (hXo : Q (.inr "java/lang/IndexOutOfBoundsException") w) (hXa : Q (.inr "java/lang/IllegalArgumentException") w) (hQ : ∀ v : Int32, Q (.inl (some (.int v))) w) : WP (MX1_who g) Q (0, [some (.ref x), some (.int a0), some (.int a1)], [], w, 0, 0) := by
  obtain ⟨n, rf, md, f, gc, gl, hx, hn, hc, hl, hgc, hgl, hn0, hn1, rx, rn, rc, rl, ⟨d1, d2, d3, d4, d5, d6⟩, ⟨d7, d8, d9, d10, d11, d12⟩⟩ := hC.1.opn g
  simp only [eX1_who_0, eX1_who_4, eX1_who_9, eX1_who_14, wt_nil, Nat.zero_add]
  with_reducible refine And.intro ?_ ?_
  omega
  with_reducible refine And.intro ?_ ?_
  omega
  with_reducible refine And.intro ?_ ?_
  omega
  with_reducible refine sX1_needNumber ?_ ?_
  simp only [kx_r]
  with_reducible assumption
  simp only [kx_l, wt_nil, tl_n]
  with_reducible intro _
  with_reducible intro _
  with_reducible refine And.intro ?_ ?_
  omega
  with_reducible refine And.intro ?_ ?_
  omega
  with_reducible refine And.intro ?_ ?_
  omega
  with_reducible refine sX1_needChoice ?_ ?_
  simp only [kx_r]
  with_reducible assumption
  simp only [eX1_who_15, eX1_who_16, eX1_who_21, eX1_who_25, eX1_who_26, rx, rn, kx_l, go_s, gl_s, wt_nil, tl_n, g0, ex1, true_and, Nat.add_zero]
  split
  with_reducible intro _
  with_reducible intro _
  with_reducible refine And.intro ?_ ?_
  with_reducible exact vpi8 (by assumption) (by assumption)
  with_reducible refine And.intro ?_ ?_
  omega
  with_reducible refine And.intro ?_ ?_
  omega
  with_reducible refine And.intro ?_ ?_
  omega
  with_reducible refine sX1_holdersOf (by first | assumption | exact CC.ext (by assumption) (by assumption)) ?_
  simp only [eX1_who_29, kx_l, tl_s]
  with_reducible intro _
  with_reducible refine And.intro ?_ ?_
  omega
  with_reducible refine And.intro ?_ ?_
  omega
  with_reducible exact hQ _
  with_reducible intro _
  with_reducible intro _
  with_reducible refine And.intro ?_ ?_
  with_reducible exact vpi8 (by assumption) (by assumption)
  with_reducible refine And.intro ?_ ?_
  omega
  with_reducible refine And.intro ?_ ?_
  omega
  with_reducible refine And.intro ?_ ?_
  omega
  with_reducible refine sX1_holdersOf (by first | assumption | exact CC.ext (by assumption) (by assumption)) ?_
  simp only [eX1_who_29, kx_l, tl_s]
  with_reducible intro _
  with_reducible refine And.intro ?_ ?_
  omega
  with_reducible refine And.intro ?_ ?_
  omega
  with_reducible exact hQ _
set_option maxHeartbeats 4000000 in
theorem sX1_which {a0 : Int32} (hC : CC g w0 x nA cA lA kn w) (hXa : Q (.inr "java/lang/IllegalArgumentException") w) (hQ : ∀ v : Int32, Q (.inl (some (.int v))) w) : WP (MX1_which g) Q (0, [some (.ref x), some (.int a0)], [], w, 0, 0) := by
  obtain ⟨n, rf, md, f, gc, gl, hx, hn, hc, hl, hgc, hgl, hn0, hn1, rx, rn, rc, rl, ⟨d1, d2, d3, d4, d5, d6⟩, ⟨d7, d8, d9, d10, d11, d12⟩⟩ := hC.1.opn g
  simp only [eX1_which_0, eX1_which_5, wt_nil, Nat.zero_add, Nat.add_zero]
  with_reducible refine And.intro ?_ ?_
  omega
  with_reducible refine And.intro ?_ ?_
  omega
  with_reducible refine And.intro ?_ ?_
  omega
  with_reducible refine sX1_needChoice ?_ ?_
  simp only [kx_r]
  with_reducible assumption
  simp only [rx, kx_l, go_s, wt_nil, tl_n, true_and]
  with_reducible intro _
  with_reducible intro _
  with_reducible refine And.intro ?_ ?_
  omega
  with_reducible refine And.intro ?_ ?_
  omega
  with_reducible refine And.intro ?_ ?_
  omega
  with_reducible refine sX1_cardsThatAre (by first | assumption | exact CC.ext (by assumption) (by assumption)) ?_ (by first | assumption | decide) (by first | assumption | decide)
  simp only [eX1_which_10, kx_l, tl_s]
  with_reducible intro _
  with_reducible refine And.intro ?_ ?_
  omega
  with_reducible refine And.intro ?_ ?_
  omega
  with_reducible exact hQ _
set_option maxHeartbeats 4000000 in
theorem sX1_likes {a0 : Int32} (hC : CC g w0 x nA cA lA kn w) (hXo : Q (.inr "java/lang/IndexOutOfBoundsException") w) (hXs : Q (.inr "java/lang/IllegalStateException") w) (hQ : ∀ v : Int32, Q (.inl (some (.int v))) w) : WP (MX1_likes g) Q (0, [some (.ref x), some (.int a0)], [], w, 0, 0) := by
  obtain ⟨n, rf, md, f, gc, gl, hx, hn, hc, hl, hgc, hgl, hn0, hn1, rx, rn, rc, rl, ⟨d1, d2, d3, d4, d5, d6⟩, ⟨d7, d8, d9, d10, d11, d12⟩⟩ := hC.1.opn g
  simp only [eX1_likes_0, rx, go_s, wt_nil, wt_ref, true_and, Nat.zero_add, Nat.add_zero]
  with_reducible refine And.intro ?_ ?_
  omega
  with_reducible refine And.intro ?_ ?_
  omega
  with_reducible refine And.intro ?_ ?_
  omega
  with_reducible refine sX1_rangeOf2 (by first | assumption | exact CC.ext (by assumption) (by assumption)) ?_ ?_ ?_
  simp only [kx_r]
  with_reducible assumption
  simp only [kx_r]
  with_reducible assumption
  simp only [eX1_likes_6R, rx, kx_l, go_s, wt_nil, tl_s, true_and, Nat.add_zero]
  with_reducible intro _
  with_reducible intro _
  with_reducible intro _
  with_reducible intro _
  with_reducible refine And.intro ?_ ?_
  omega
  with_reducible refine And.intro ?_ ?_
  omega
  with_reducible refine And.intro ?_ ?_
  omega
  with_reducible refine sX1_cardsLike (by first | assumption | exact CC.ext (by assumption) (by assumption)) (by first | assumption | exact hgc _ _ (by assumption) | exact hgl _ _ (by assumption) | exact isR.ext (by assumption) (by assumption) | exact isR.mono (by assumption) (by first | assumption | exact isR.ext (by assumption) (by assumption)) | exact isR_up2 (by first | assumption | exact hgc _ _ (by assumption)) hc (by simp)) ?_
  simp only [eX1_likes_9, kx_l, tl_s]
  with_reducible intro _
  with_reducible refine And.intro ?_ ?_
  omega
  with_reducible refine And.intro ?_ ?_
  omega
  with_reducible exact hQ _
set_option maxHeartbeats 4000000 in
theorem sX1_pile {a0 : Int32} {a1 : Int32} (hC : CC g w0 x nA cA lA kn w) (hXo : Q (.inr "java/lang/IndexOutOfBoundsException") w) (hXa : Q (.inr "java/lang/IllegalArgumentException") w) (hQ : ∀ v : Int32, Q (.inl (some (.int v))) w) : WP (MX1_pile g) Q (0, [some (.ref x), some (.int a0), some (.int a1)], [], w, 0, 0) := by
  obtain ⟨n, rf, md, f, gc, gl, hx, hn, hc, hl, hgc, hgl, hn0, hn1, rx, rn, rc, rl, ⟨d1, d2, d3, d4, d5, d6⟩, ⟨d7, d8, d9, d10, d11, d12⟩⟩ := hC.1.opn g
  simp only [eX1_pile_0, eX1_pile_4, eX1_pile_9, eX1_pile_14, wt_nil, Nat.zero_add]
  with_reducible refine And.intro ?_ ?_
  omega
  with_reducible refine And.intro ?_ ?_
  omega
  with_reducible refine And.intro ?_ ?_
  omega
  with_reducible refine sX1_needNumber ?_ ?_
  simp only [kx_r]
  with_reducible assumption
  simp only [kx_l, wt_nil, tl_n]
  with_reducible intro _
  with_reducible intro _
  with_reducible refine And.intro ?_ ?_
  omega
  with_reducible refine And.intro ?_ ?_
  omega
  with_reducible refine And.intro ?_ ?_
  omega
  with_reducible refine sX1_needChoice ?_ ?_
  simp only [kx_r]
  with_reducible assumption
  simp only [eX1_pile_15, eX1_pile_16, rx, rn, kx_l, go_s, gl_s, wt_nil, tl_n, g0, ex1, true_and, Nat.add_zero]
  with_reducible intro _
  with_reducible intro _
  with_reducible refine And.intro ?_ ?_
  with_reducible exact vpi8 (by assumption) (by assumption)
  with_reducible refine And.intro ?_ ?_
  omega
  with_reducible refine And.intro ?_ ?_
  omega
  with_reducible refine And.intro ?_ ?_
  omega
  with_reducible refine sX1_pileCount (by first | assumption | exact CC.ext (by assumption) (by assumption)) ?_
  simp only [eX1_pile_20, kx_l, tl_s]
  with_reducible intro _
  with_reducible refine And.intro ?_ ?_
  omega
  with_reducible refine And.intro ?_ ?_
  omega
  with_reducible exact hQ _
set_option maxHeartbeats 4000000 in
theorem sX1_house {a0 : Int32} (hC : CC g w0 x nA cA lA kn w) (hXa : Q (.inr "java/lang/IllegalArgumentException") w) (hQ : ∀ v : Int32, Q (.inl (some (.int v))) w) : WP (MX1_house g) Q (0, [some (.ref x), some (.int a0)], [], w, 0, 0) := by
  obtain ⟨n, rf, md, f, gc, gl, hx, hn, hc, hl, hgc, hgl, hn0, hn1, rx, rn, rc, rl, ⟨d1, d2, d3, d4, d5, d6⟩, ⟨d7, d8, d9, d10, d11, d12⟩⟩ := hC.1.opn g
  repeat' first
    | with_reducible assumption
    | with_reducible refine And.intro ?_ ?_
    | with_reducible exact vpi6 (by assumption) (by assumption)
    | with_reducible exact vpi8 (by assumption) (by assumption)
    | with_reducible refine sX1_needChoice ?_ ?_
    | with_reducible refine sX1_houseCount (by first | assumption | exact CC.ext (by assumption) (by assumption)) ?_
    | with_reducible refine go_R (by first | assumption | exact hgc _ _ (by assumption) | exact hgl _ _ (by assumption) | exact isR.ext (by assumption) (by assumption) | exact isR.mono (by assumption) (by first | assumption | exact isR.ext (by assumption) (by assumption)) | exact isR_up2 (by first | assumption | exact hgc _ _ (by assumption)) hc (by simp)) ?_
    | with_reducible exact hQ _
    | simp only [eX1_house_0, eX1_house_5, eX1_house_5N, eX1_house_6, eX1_house_10, rx, rn, rc, rl, hx, hn, hc, hl, d1, d2, d3, d4, d5, d6, d7, d8, d9, d10, d11, d12, rd_n, upw_n, ite_le, n45, n54, true_or, or_true, false_or, or_false, false_and, and_false, kx_l, kx_r, go_s, gl_s, gi_s, gb_s2, gb_s3, gq_s, wt_nil, wt_int, wt_long, wt_ref, wt_null, nl_int, nl_long, nl_ref, nl_null, nl_none, rf_n, rf_s, rf_st, tl_s, tl_n, g0, gS, ex1, nb_b, nb_0, nb_1, nf_i, nf_l, nf_ra, nf_ro, nf_na, nf_no, nf_b0, nf_z0, t45_4, t45_5, true_and, and_true, List.set_cons_zero, List.set_cons_succ, List.length_cons, List.length_nil, rd_s, upw_s, ne_eq, not_false_eq_true, Nat.zero_add, Nat.add_zero]
    | split
    | with_reducible intro _
    | omega
end
end
/-! 67.24.sound0.lean.txt -/
section
section
variable {g : RO} {Q : Ot → Hw → Prop} {w0 w : Hw} {x nA cA lA : Nat} {kn : Int32}
set_option maxHeartbeats 4000000 in
theorem sX1_isLikeItsCopy {a0 : Nat} (h0 : isR w a0) (hQ : ∀ (v : Bool) (w' : Hw), ext g w w' → Q (.inl (some (.int (bI v)))) w') : WP (MX1_isLikeItsCopy g) Q (0, [some (.ref a0), none], [], w, 0, 0) := by
  have hQt : ∀ w', ext g w w' → Q (.inl (some (.int 1))) w' := hQ true
  have hQf : ∀ w', ext g w w' → Q (.inl (some (.int 0))) w' := hQ false
  simp only [eX1_isLikeItsCopy_0, wt_nil, Nat.zero_add]
  with_reducible refine And.intro ?_ ?_
  omega
  with_reducible refine And.intro ?_ ?_
  omega
  with_reducible refine And.intro ?_ ?_
  omega
  with_reducible refine sX1_copyOf (by first | assumption | exact hgc _ _ (by assumption) | exact hgl _ _ (by assumption) | exact isR.ext (by assumption) (by repeat' first | assumption | exact ext.rf | refine ext.tr (by assumption) ?_) | exact isR.ext (hgc _ _ (by assumption)) (by repeat' first | assumption | exact ext.rf | refine ext.tr (by assumption) ?_)) ?_ ?_
  simp only [eX1_isLikeItsCopy_4N, eX1_isLikeItsCopy_5N, eX1_isLikeItsCopy_6N, eX1_isLikeItsCopy_41, eX1_isLikeItsCopy_42, kx_l, nl_ref, tl_s, nb_0, true_and]
  with_reducible refine And.intro ?_ ?_
  omega
  with_reducible refine And.intro ?_ ?_
  omega
  with_reducible exact hQf _ (by repeat' first | assumption | exact ext.rf | refine ext.tr (by assumption) ?_)
  simp only [eX1_isLikeItsCopy_4, eX1_isLikeItsCopy_5, eX1_isLikeItsCopy_6R, eX1_isLikeItsCopy_9, kx_l, wt_nil, nl_ref, tl_s, Nat.add_zero]
  with_reducible intro _
  with_reducible intro _
  with_reducible intro _
  with_reducible intro _
  with_reducible refine And.intro ?_ ?_
  with_reducible refine go_R (by first | assumption | exact hgc _ _ (by assumption) | exact hgl _ _ (by assumption) | exact isR.ext (by assumption) (by repeat' first | assumption | exact ext.rf | refine ext.tr (by assumption) ?_) | exact isR.ext (hgc _ _ (by assumption)) (by repeat' first | assumption | exact ext.rf | refine ext.tr (by assumption) ?_)) ?_
  with_reducible intro _
  with_reducible intro _
  with_reducible intro _
  with_reducible intro _
  simp only []
  with_reducible refine And.intro ?_ ?_
  omega
  with_reducible refine And.intro ?_ ?_
  omega
  with_reducible refine And.intro ?_ ?_
  omega
  with_reducible refine sX0_matchesR (by first | assumption | exact hgc _ _ (by assumption) | exact hgl _ _ (by assumption) | exact isR.ext (by assumption) (by repeat' first | assumption | exact ext.rf | refine ext.tr (by assumption) ?_) | exact isR.ext (hgc _ _ (by assumption)) (by repeat' first | assumption | exact ext.rf | refine ext.tr (by assumption) ?_)) (by first | assumption | exact hgc _ _ (by assumption) | exact hgl _ _ (by assumption) | exact isR.ext (by assumption) (by repeat' first | assumption | exact ext.rf | refine ext.tr (by assumption) ?_) | exact isR.ext (hgc _ _ (by assumption)) (by repeat' first | assumption | exact ext.rf | refine ext.tr (by assumption) ?_)) ?_
  simp only [eX1_isLikeItsCopy_14, eX1_isLikeItsCopy_17, eX1_isLikeItsCopy_41, eX1_isLikeItsCopy_42, kx_l, wt_nil, tl_s, nb_0, true_and, Nat.add_zero]
  with_reducible intro _
  split
  with_reducible refine And.intro ?_ ?_
  omega
  with_reducible refine And.intro ?_ ?_
  omega
  with_reducible exact hQf _ (by repeat' first | assumption | exact ext.rf | refine ext.tr (by assumption) ?_)
  with_reducible refine And.intro ?_ ?_
  with_reducible refine go_R (by first | assumption | exact hgc _ _ (by assumption) | exact hgl _ _ (by assumption) | exact isR.ext (by assumption) (by repeat' first | assumption | exact ext.rf | refine ext.tr (by assumption) ?_) | exact isR.ext (hgc _ _ (by assumption)) (by repeat' first | assumption | exact ext.rf | refine ext.tr (by assumption) ?_)) ?_
  with_reducible intro _
  with_reducible intro _
  with_reducible intro _
  with_reducible intro _
  simp only []
  with_reducible refine And.intro ?_ ?_
  omega
  with_reducible refine And.intro ?_ ?_
  omega
  with_reducible refine And.intro ?_ ?_
  omega
  with_reducible refine sX0_matchesR (by first | assumption | exact hgc _ _ (by assumption) | exact hgl _ _ (by assumption) | exact isR.ext (by assumption) (by repeat' first | assumption | exact ext.rf | refine ext.tr (by assumption) ?_) | exact isR.ext (hgc _ _ (by assumption)) (by repeat' first | assumption | exact ext.rf | refine ext.tr (by assumption) ?_)) (by first | assumption | exact hgc _ _ (by assumption) | exact hgl _ _ (by assumption) | exact isR.ext (by assumption) (by repeat' first | assumption | exact ext.rf | refine ext.tr (by assumption) ?_) | exact isR.ext (hgc _ _ (by assumption)) (by repeat' first | assumption | exact ext.rf | refine ext.tr (by assumption) ?_)) ?_
  simp only [eX1_isLikeItsCopy_22, eX1_isLikeItsCopy_25, eX1_isLikeItsCopy_29, eX1_isLikeItsCopy_41, eX1_isLikeItsCopy_42, kx_l, wt_nil, tl_s, nb_0, true_and, Nat.add_zero]
  with_reducible intro _
  split
  with_reducible refine And.intro ?_ ?_
  omega
  with_reducible refine And.intro ?_ ?_
  omega
  with_reducible exact hQf _ (by repeat' first | assumption | exact ext.rf | refine ext.tr (by assumption) ?_)
  with_reducible refine And.intro ?_ ?_
  with_reducible refine go_R (by first | assumption | exact hgc _ _ (by assumption) | exact hgl _ _ (by assumption) | exact isR.ext (by assumption) (by repeat' first | assumption | exact ext.rf | refine ext.tr (by assumption) ?_) | exact isR.ext (hgc _ _ (by assumption)) (by repeat' first | assumption | exact ext.rf | refine ext.tr (by assumption) ?_)) ?_
  with_reducible intro _
  with_reducible intro _
  with_reducible intro _
  with_reducible intro _
  simp only []
  with_reducible refine And.intro ?_ ?_
  omega
  with_reducible refine And.intro ?_ ?_
  omega
  with_reducible refine And.intro ?_ ?_
  omega
  with_reducible refine sX0_hash (by first | assumption | exact hgc _ _ (by assumption) | exact hgl _ _ (by assumption) | exact isR.ext (by assumption) (by repeat' first | assumption | exact ext.rf | refine ext.tr (by assumption) ?_) | exact isR.ext (hgc _ _ (by assumption)) (by repeat' first | assumption | exact ext.rf | refine ext.tr (by assumption) ?_)) ?_
  simp only [kx_l, wt_nil, wt_long, tl_s, Nat.add_zero]
  with_reducible intro _
  with_reducible refine And.intro ?_ ?_
  with_reducible refine go_R (by first | assumption | exact hgc _ _ (by assumption) | exact hgl _ _ (by assumption) | exact isR.ext (by assumption) (by repeat' first | assumption | exact ext.rf | refine ext.tr (by assumption) ?_) | exact isR.ext (hgc _ _ (by assumption)) (by repeat' first | assumption | exact ext.rf | refine ext.tr (by assumption) ?_)) ?_
  with_reducible intro _
  with_reducible intro _
  with_reducible intro _
  with_reducible intro _
  simp only []
  with_reducible refine And.intro ?_ ?_
  omega
  with_reducible refine And.intro ?_ ?_
  omega
  with_reducible refine And.intro ?_ ?_
  omega
  with_reducible refine sX0_hash (by first | assumption | exact hgc _ _ (by assumption) | exact hgl _ _ (by assumption) | exact isR.ext (by assumption) (by repeat' first | assumption | exact ext.rf | refine ext.tr (by assumption) ?_) | exact isR.ext (hgc _ _ (by assumption)) (by repeat' first | assumption | exact ext.rf | refine ext.tr (by assumption) ?_)) ?_
  simp only [eX1_isLikeItsCopy_33, eX1_isLikeItsCopy_37, eX1_isLikeItsCopy_41, eX1_isLikeItsCopy_42, kx_l, tl_s, nb_0, nb_1, true_and]
  with_reducible intro _
  split
  with_reducible refine And.intro ?_ ?_
  omega
  with_reducible refine And.intro ?_ ?_
  omega
  with_reducible exact hQt _ (by repeat' first | assumption | exact ext.rf | refine ext.tr (by assumption) ?_)
  with_reducible refine And.intro ?_ ?_
  omega
  with_reducible refine And.intro ?_ ?_
  omega
  with_reducible exact hQf _ (by repeat' first | assumption | exact ext.rf | refine ext.tr (by assumption) ?_)
set_option maxHeartbeats 4000000 in
theorem sX1_isDrawnSound {a0 : Nat} (hC : CC g w0 x nA cA lA kn w) (h0 : isR w a0) (hQ : ∀ (v : Bool) (w' : Hw), ext g w w' → Q (.inl (some (.int (bI v)))) w') : WP (MX1_isDrawnSound g) Q (0, [some (.ref x), some (.ref a0), none, none], [], w, 0, 0) := by
  obtain ⟨n, rf, md, f, gc, gl, hx, hn, hc, hl, hgc, hgl, hn0, hn1, rx, rn, rc, rl, ⟨d1, d2, d3, d4, d5, d6⟩, ⟨d7, d8, d9, d10, d11, d12⟩⟩ := hC.1.opn g
  have hQt : ∀ w', ext g w w' → Q (.inl (some (.int 1))) w' := hQ true
  have hQf : ∀ w', ext g w w' → Q (.inl (some (.int 0))) w' := hQ false
  simp only [eX1_isDrawnSound_0, eX1_isDrawnSound_4, eX1_isDrawnSound_8, eX1_isDrawnSound_12]
  with_reducible refine go_R (by first | assumption | exact hgc _ _ (by assumption) | exact hgl _ _ (by assumption) | exact isR.ext (by assumption) (by repeat' first | assumption | exact ext.rf | refine ext.tr (by assumption) ?_) | exact isR.ext (hgc _ _ (by assumption)) (by repeat' first | assumption | exact ext.rf | refine ext.tr (by assumption) ?_)) ?_
  simp only [g0, ex1]
  with_reducible intro _
  with_reducible intro _
  with_reducible intro _
  with_reducible intro _
  with_reducible refine go_R (by first | assumption | exact hgc _ _ (by assumption) | exact hgl _ _ (by assumption) | exact isR.ext (by assumption) (by repeat' first | assumption | exact ext.rf | refine ext.tr (by assumption) ?_) | exact isR.ext (hgc _ _ (by assumption)) (by repeat' first | assumption | exact ext.rf | refine ext.tr (by assumption) ?_)) ?_
  simp only [g0, ex1]
  with_reducible intro _
  with_reducible intro _
  with_reducible intro _
  with_reducible intro _
  with_reducible refine go_R (by first | assumption | exact hgc _ _ (by assumption) | exact hgl _ _ (by assumption) | exact isR.ext (by assumption) (by repeat' first | assumption | exact ext.rf | refine ext.tr (by assumption) ?_) | exact isR.ext (hgc _ _ (by assumption)) (by repeat' first | assumption | exact ext.rf | refine ext.tr (by assumption) ?_)) ?_
  simp only [g0, gS, ex1]
  with_reducible intro _
  with_reducible intro _
  with_reducible intro _
  with_reducible intro _
  with_reducible refine go_R (by first | assumption | exact hgc _ _ (by assumption) | exact hgl _ _ (by assumption) | exact isR.ext (by assumption) (by repeat' first | assumption | exact ext.rf | refine ext.tr (by assumption) ?_) | exact isR.ext (hgc _ _ (by assumption)) (by repeat' first | assumption | exact ext.rf | refine ext.tr (by assumption) ?_)) ?_
  simp only [eX1_isDrawnSound_16, wt_nil, g0, gS, ex1, Nat.zero_add]
  with_reducible intro _
  with_reducible intro _
  with_reducible intro _
  with_reducible intro _
  with_reducible refine And.intro ?_ ?_
  omega
  with_reducible refine And.intro ?_ ?_
  omega
  with_reducible refine And.intro ?_ ?_
  omega
  with_reducible refine sX0_ofFour ?_ ?_
  simp only [eX1_isDrawnSound_19N, eX1_isDrawnSound_20, eX1_isDrawnSound_24, eX1_isDrawnSound_28, eX1_isDrawnSound_32, kx_l, nl_ref, tl_s]
  with_reducible refine go_R (by first | assumption | exact hgc _ _ (by assumption) | exact hgl _ _ (by assumption) | exact isR.ext (by assumption) (by repeat' first | assumption | exact ext.rf | refine ext.tr (by assumption) ?_) | exact isR.ext (hgc _ _ (by assumption)) (by repeat' first | assumption | exact ext.rf | refine ext.tr (by assumption) ?_)) ?_
  simp only [g0, ex1]
  with_reducible intro _
  with_reducible intro _
  with_reducible intro _
  with_reducible intro _
  with_reducible refine go_R (by first | assumption | exact hgc _ _ (by assumption) | exact hgl _ _ (by assumption) | exact isR.ext (by assumption) (by repeat' first | assumption | exact ext.rf | refine ext.tr (by assumption) ?_) | exact isR.ext (hgc _ _ (by assumption)) (by repeat' first | assumption | exact ext.rf | refine ext.tr (by assumption) ?_)) ?_
  simp only [g0, gS, ex1]
  with_reducible intro _
  with_reducible intro _
  with_reducible intro _
  with_reducible intro _
  with_reducible refine go_R (by first | assumption | exact hgc _ _ (by assumption) | exact hgl _ _ (by assumption) | exact isR.ext (by assumption) (by repeat' first | assumption | exact ext.rf | refine ext.tr (by assumption) ?_) | exact isR.ext (hgc _ _ (by assumption)) (by repeat' first | assumption | exact ext.rf | refine ext.tr (by assumption) ?_)) ?_
  simp only [g0, gS, ex1]
  with_reducible intro _
  with_reducible intro _
  with_reducible intro _
  with_reducible intro _
  with_reducible refine go_R (by first | assumption | exact hgc _ _ (by assumption) | exact hgl _ _ (by assumption) | exact isR.ext (by assumption) (by repeat' first | assumption | exact ext.rf | refine ext.tr (by assumption) ?_) | exact isR.ext (hgc _ _ (by assumption)) (by repeat' first | assumption | exact ext.rf | refine ext.tr (by assumption) ?_)) ?_
  simp only [eX1_isDrawnSound_36, wt_nil, g0, gS, ex1]
  with_reducible intro _
  with_reducible intro _
  with_reducible intro _
  with_reducible intro _
  with_reducible refine And.intro ?_ ?_
  omega
  with_reducible refine And.intro ?_ ?_
  omega
  with_reducible refine And.intro ?_ ?_
  omega
  with_reducible refine sX0_ofFour ?_ ?_
  simp only [eX1_isDrawnSound_39N, eX1_isDrawnSound_40, eX1_isDrawnSound_41N, eX1_isDrawnSound_42, eX1_isDrawnSound_43NR, rx, kx_l, go_s, wt_nil, nl_null, tl_s, true_and, Nat.add_zero]
  with_reducible refine And.intro ?_ ?_
  omega
  with_reducible refine And.intro ?_ ?_
  omega
  with_reducible refine And.intro ?_ ?_
  omega
  with_reducible refine sX1_hasSameValidN (by first | assumption | exact CC.ext hC (by repeat' first | assumption | exact ext.rf | refine ext.tr (by assumption) ?_)) (by first | assumption | exact hgc _ _ (by assumption) | exact hgl _ _ (by assumption) | exact isR.ext (by assumption) (by repeat' first | assumption | exact ext.rf | refine ext.tr (by assumption) ?_) | exact isR.ext (hgc _ _ (by assumption)) (by repeat' first | assumption | exact ext.rf | refine ext.tr (by assumption) ?_)) ?_
  simp only [eX1_isDrawnSound_46, eX1_isDrawnSound_49, eX1_isDrawnSound_50N, eX1_isDrawnSound_51, eX1_isDrawnSound_52NR, eX1_isDrawnSound_62, eX1_isDrawnSound_63, rx, kx_l, go_s, wt_nil, tl_s, nb_0, true_and, Nat.add_zero]
  with_reducible intro _
  split
  with_reducible refine And.intro ?_ ?_
  omega
  with_reducible refine And.intro ?_ ?_
  omega
  with_reducible exact hQf _ (by repeat' first | assumption | exact ext.rf | refine ext.tr (by assumption) ?_)
  with_reducible refine And.intro ?_ ?_
  omega
  with_reducible refine And.intro ?_ ?_
  omega
  with_reducible refine And.intro ?_ ?_
  omega
  with_reducible refine sX1_hasSameValidN (by first | assumption | exact CC.ext hC (by repeat' first | assumption | exact ext.rf | refine ext.tr (by assumption) ?_)) (by first | assumption | exact hgc _ _ (by assumption) | exact hgl _ _ (by assumption) | exact isR.ext (by assumption) (by repeat' first | assumption | exact ext.rf | refine ext.tr (by assumption) ?_) | exact isR.ext (hgc _ _ (by assumption)) (by repeat' first | assumption | exact ext.rf | refine ext.tr (by assumption) ?_)) ?_
  simp only [eX1_isDrawnSound_55, eX1_isDrawnSound_58, eX1_isDrawnSound_62, eX1_isDrawnSound_63, kx_l, tl_s, nb_0, nb_1, true_and]
  with_reducible intro _
  split
  with_reducible refine And.intro ?_ ?_
  omega
  with_reducible refine And.intro ?_ ?_
  omega
  with_reducible exact hQf _ (by repeat' first | assumption | exact ext.rf | refine ext.tr (by assumption) ?_)
  with_reducible refine And.intro ?_ ?_
  omega
  with_reducible refine And.intro ?_ ?_
  omega
  with_reducible exact hQt _ (by repeat' first | assumption | exact ext.rf | refine ext.tr (by assumption) ?_)
  simp only [eX1_isDrawnSound_39, eX1_isDrawnSound_40, eX1_isDrawnSound_41N, eX1_isDrawnSound_42, eX1_isDrawnSound_43NR, kx_l, wt_nil, nl_null, tl_s, Nat.add_zero]
  with_reducible intro _
  with_reducible intro _
  with_reducible intro _
  with_reducible intro _
  with_reducible refine And.intro ?_ ?_
  with_reducible exact go_C (by first | assumption | exact CC.ext hC (by repeat' first | assumption | exact ext.rf | refine ext.tr (by assumption) ?_))
  with_reducible refine And.intro ?_ ?_
  omega
  with_reducible refine And.intro ?_ ?_
  omega
  with_reducible refine And.intro ?_ ?_
  omega
  with_reducible refine sX1_hasSameValidN (by first | assumption | exact CC.ext hC (by repeat' first | assumption | exact ext.rf | refine ext.tr (by assumption) ?_)) (by first | assumption | exact hgc _ _ (by assumption) | exact hgl _ _ (by assumption) | exact isR.ext (by assumption) (by repeat' first | assumption | exact ext.rf | refine ext.tr (by assumption) ?_) | exact isR.ext (hgc _ _ (by assumption)) (by repeat' first | assumption | exact ext.rf | refine ext.tr (by assumption) ?_)) ?_
  simp only [eX1_isDrawnSound_46, eX1_isDrawnSound_49, eX1_isDrawnSound_50, eX1_isDrawnSound_51, eX1_isDrawnSound_52RR, eX1_isDrawnSound_62, eX1_isDrawnSound_63, kx_l, wt_nil, tl_s, nb_0, true_and, Nat.add_zero]
  with_reducible intro _
  split
  with_reducible refine And.intro ?_ ?_
  omega
  with_reducible refine And.intro ?_ ?_
  omega
  with_reducible exact hQf _ (by repeat' first | assumption | exact ext.rf | refine ext.tr (by assumption) ?_)
  with_reducible refine And.intro ?_ ?_
  with_reducible exact go_C (by first | assumption | exact CC.ext hC (by repeat' first | assumption | exact ext.rf | refine ext.tr (by assumption) ?_))
  with_reducible refine And.intro ?_ ?_
  omega
  with_reducible refine And.intro ?_ ?_
  omega
  with_reducible refine And.intro ?_ ?_
  omega
  with_reducible refine sX1_hasSameValidR (by first | assumption | exact CC.ext hC (by repeat' first | assumption | exact ext.rf | refine ext.tr (by assumption) ?_)) (by first | assumption | exact hgc _ _ (by assumption) | exact hgl _ _ (by assumption) | exact isR.ext (by assumption) (by repeat' first | assumption | exact ext.rf | refine ext.tr (by assumption) ?_) | exact isR.ext (hgc _ _ (by assumption)) (by repeat' first | assumption | exact ext.rf | refine ext.tr (by assumption) ?_)) (by first | assumption | exact hgc _ _ (by assumption) | exact hgl _ _ (by assumption) | exact isR.ext (by assumption) (by repeat' first | assumption | exact ext.rf | refine ext.tr (by assumption) ?_) | exact isR.ext (hgc _ _ (by assumption)) (by repeat' first | assumption | exact ext.rf | refine ext.tr (by assumption) ?_)) ?_
  simp only [eX1_isDrawnSound_55, eX1_isDrawnSound_58, eX1_isDrawnSound_62, eX1_isDrawnSound_63, kx_l, tl_s, nb_0, nb_1, true_and]
  with_reducible intro _
  split
  with_reducible refine And.intro ?_ ?_
  omega
  with_reducible refine And.intro ?_ ?_
  omega
  with_reducible exact hQf _ (by repeat' first | assumption | exact ext.rf | refine ext.tr (by assumption) ?_)
  with_reducible refine And.intro ?_ ?_
  omega
  with_reducible refine And.intro ?_ ?_
  omega
  with_reducible exact hQt _ (by repeat' first | assumption | exact ext.rf | refine ext.tr (by assumption) ?_)
  simp only [eX1_isDrawnSound_19, eX1_isDrawnSound_20, eX1_isDrawnSound_24, eX1_isDrawnSound_28, eX1_isDrawnSound_32, kx_l, nl_ref, tl_s]
  with_reducible intro _
  with_reducible intro _
  with_reducible intro _
  with_reducible intro _
  with_reducible refine go_R (by first | assumption | exact hgc _ _ (by assumption) | exact hgl _ _ (by assumption) | exact isR.ext (by assumption) (by repeat' first | assumption | exact ext.rf | refine ext.tr (by assumption) ?_) | exact isR.ext (hgc _ _ (by assumption)) (by repeat' first | assumption | exact ext.rf | refine ext.tr (by assumption) ?_)) ?_
  simp only [g0, ex1]
  with_reducible intro _
  with_reducible intro _
  with_reducible intro _
  with_reducible intro _
  with_reducible refine go_R (by first | assumption | exact hgc _ _ (by assumption) | exact hgl _ _ (by assumption) | exact isR.ext (by assumption) (by repeat' first | assumption | exact ext.rf | refine ext.tr (by assumption) ?_) | exact isR.ext (hgc _ _ (by assumption)) (by repeat' first | assumption | exact ext.rf | refine ext.tr (by assumption) ?_)) ?_
  simp only [g0, gS, ex1]
  with_reducible intro _
  with_reducible intro _
  with_reducible intro _
  with_reducible intro _
  with_reducible refine go_R (by first | assumption | exact hgc _ _ (by assumption) | exact hgl _ _ (by assumption) | exact isR.ext (by assumption) (by repeat' first | assumption | exact ext.rf | refine ext.tr (by assumption) ?_) | exact isR.ext (hgc _ _ (by assumption)) (by repeat' first | assumption | exact ext.rf | refine ext.tr (by assumption) ?_)) ?_
  simp only [g0, gS, ex1]
  with_reducible intro _
  with_reducible intro _
  with_reducible intro _
  with_reducible intro _
  with_reducible refine go_R (by first | assumption | exact hgc _ _ (by assumption) | exact hgl _ _ (by assumption) | exact isR.ext (by assumption) (by repeat' first | assumption | exact ext.rf | refine ext.tr (by assumption) ?_) | exact isR.ext (hgc _ _ (by assumption)) (by repeat' first | assumption | exact ext.rf | refine ext.tr (by assumption) ?_)) ?_
  simp only [eX1_isDrawnSound_36, wt_nil, g0, gS, ex1]
  with_reducible intro _
  with_reducible intro _
  with_reducible intro _
  with_reducible intro _
  with_reducible refine And.intro ?_ ?_
  omega
  with_reducible refine And.intro ?_ ?_
  omega
  with_reducible refine And.intro ?_ ?_
  omega
  with_reducible refine sX0_ofFour ?_ ?_
  simp only [eX1_isDrawnSound_39N, eX1_isDrawnSound_40, eX1_isDrawnSound_41, eX1_isDrawnSound_42, eX1_isDrawnSound_43RR, kx_l, wt_nil, nl_ref, tl_s, Nat.add_zero]
  with_reducible refine And.intro ?_ ?_
  with_reducible exact go_C (by first | assumption | exact CC.ext hC (by repeat' first | assumption | exact ext.rf | refine ext.tr (by assumption) ?_))
  with_reducible refine And.intro ?_ ?_
  omega
  with_reducible refine And.intro ?_ ?_
  omega
  with_reducible refine And.intro ?_ ?_
  omega
  with_reducible refine sX1_hasSameValidR (by first | assumption | exact CC.ext hC (by repeat' first | assumption | exact ext.rf | refine ext.tr (by assumption) ?_)) (by first | assumption | exact hgc _ _ (by assumption) | exact hgl _ _ (by assumption) | exact isR.ext (by assumption) (by repeat' first | assumption | exact ext.rf | refine ext.tr (by assumption) ?_) | exact isR.ext (hgc _ _ (by assumption)) (by repeat' first | assumption | exact ext.rf | refine ext.tr (by assumption) ?_)) (by first | assumption | exact hgc _ _ (by assumption) | exact hgl _ _ (by assumption) | exact isR.ext (by assumption) (by repeat' first | assumption | exact ext.rf | refine ext.tr (by assumption) ?_) | exact isR.ext (hgc _ _ (by assumption)) (by repeat' first | assumption | exact ext.rf | refine ext.tr (by assumption) ?_)) ?_
  simp only [eX1_isDrawnSound_46, eX1_isDrawnSound_49, eX1_isDrawnSound_50N, eX1_isDrawnSound_51, eX1_isDrawnSound_52NR, eX1_isDrawnSound_62, eX1_isDrawnSound_63, kx_l, wt_nil, tl_s, nb_0, true_and, Nat.add_zero]
  with_reducible intro _
  split
  with_reducible refine And.intro ?_ ?_
  omega
  with_reducible refine And.intro ?_ ?_
  omega
  with_reducible exact hQf _ (by repeat' first | assumption | exact ext.rf | refine ext.tr (by assumption) ?_)
  with_reducible refine And.intro ?_ ?_
  with_reducible exact go_C (by first | assumption | exact CC.ext hC (by repeat' first | assumption | exact ext.rf | refine ext.tr (by assumption) ?_))
  with_reducible refine And.intro ?_ ?_
  omega
  with_reducible refine And.intro ?_ ?_
  omega
  with_reducible refine And.intro ?_ ?_
  omega
  with_reducible refine sX1_hasSameValidN (by first | assumption | exact CC.ext hC (by repeat' first | assumption | exact ext.rf | refine ext.tr (by assumption) ?_)) (by first | assumption | exact hgc _ _ (by assumption) | exact hgl _ _ (by assumption) | exact isR.ext (by assumption) (by repeat' first | assumption | exact ext.rf | refine ext.tr (by assumption) ?_) | exact isR.ext (hgc _ _ (by assumption)) (by repeat' first | assumption | exact ext.rf | refine ext.tr (by assumption) ?_)) ?_
  simp only [eX1_isDrawnSound_55, eX1_isDrawnSound_58, eX1_isDrawnSound_62, eX1_isDrawnSound_63, kx_l, tl_s, nb_0, nb_1, true_and]
  with_reducible intro _
  split
  with_reducible refine And.intro ?_ ?_
  omega
  with_reducible refine And.intro ?_ ?_
  omega
  with_reducible exact hQf _ (by repeat' first | assumption | exact ext.rf | refine ext.tr (by assumption) ?_)
  with_reducible refine And.intro ?_ ?_
  omega
  with_reducible refine And.intro ?_ ?_
  omega
  with_reducible exact hQt _ (by repeat' first | assumption | exact ext.rf | refine ext.tr (by assumption) ?_)
  simp only [eX1_isDrawnSound_39, eX1_isDrawnSound_40, eX1_isDrawnSound_41, eX1_isDrawnSound_42, eX1_isDrawnSound_43RR, kx_l, wt_nil, nl_ref, tl_s, Nat.add_zero]
  with_reducible intro _
  with_reducible intro _
  with_reducible intro _
  with_reducible intro _
  with_reducible refine And.intro ?_ ?_
  with_reducible exact go_C (by first | assumption | exact CC.ext hC (by repeat' first | assumption | exact ext.rf | refine ext.tr (by assumption) ?_))
  with_reducible refine And.intro ?_ ?_
  omega
  with_reducible refine And.intro ?_ ?_
  omega
  with_reducible refine And.intro ?_ ?_
  omega
  with_reducible refine sX1_hasSameValidR (by first | assumption | exact CC.ext hC (by repeat' first | assumption | exact ext.rf | refine ext.tr (by assumption) ?_)) (by first | assumption | exact hgc _ _ (by assumption) | exact hgl _ _ (by assumption) | exact isR.ext (by assumption) (by repeat' first | assumption | exact ext.rf | refine ext.tr (by assumption) ?_) | exact isR.ext (hgc _ _ (by assumption)) (by repeat' first | assumption | exact ext.rf | refine ext.tr (by assumption) ?_)) (by first | assumption | exact hgc _ _ (by assumption) | exact hgl _ _ (by assumption) | exact isR.ext (by assumption) (by repeat' first | assumption | exact ext.rf | refine ext.tr (by assumption) ?_) | exact isR.ext (hgc _ _ (by assumption)) (by repeat' first | assumption | exact ext.rf | refine ext.tr (by assumption) ?_)) ?_
  simp only [eX1_isDrawnSound_46, eX1_isDrawnSound_49, eX1_isDrawnSound_50, eX1_isDrawnSound_51, eX1_isDrawnSound_52RR, eX1_isDrawnSound_62, eX1_isDrawnSound_63, kx_l, wt_nil, tl_s, nb_0, true_and, Nat.add_zero]
  with_reducible intro _
  split
  with_reducible refine And.intro ?_ ?_
  omega
  with_reducible refine And.intro ?_ ?_
  omega
  with_reducible exact hQf _ (by repeat' first | assumption | exact ext.rf | refine ext.tr (by assumption) ?_)
  with_reducible refine And.intro ?_ ?_
  with_reducible exact go_C (by first | assumption | exact CC.ext hC (by repeat' first | assumption | exact ext.rf | refine ext.tr (by assumption) ?_))
  with_reducible refine And.intro ?_ ?_
  omega
  with_reducible refine And.intro ?_ ?_
  omega
  with_reducible refine And.intro ?_ ?_
  omega
  with_reducible refine sX1_hasSameValidR (by first | assumption | exact CC.ext hC (by repeat' first | assumption | exact ext.rf | refine ext.tr (by assumption) ?_)) (by first | assumption | exact hgc _ _ (by assumption) | exact hgl _ _ (by assumption) | exact isR.ext (by assumption) (by repeat' first | assumption | exact ext.rf | refine ext.tr (by assumption) ?_) | exact isR.ext (hgc _ _ (by assumption)) (by repeat' first | assumption | exact ext.rf | refine ext.tr (by assumption) ?_)) (by first | assumption | exact hgc _ _ (by assumption) | exact hgl _ _ (by assumption) | exact isR.ext (by assumption) (by repeat' first | assumption | exact ext.rf | refine ext.tr (by assumption) ?_) | exact isR.ext (hgc _ _ (by assumption)) (by repeat' first | assumption | exact ext.rf | refine ext.tr (by assumption) ?_)) ?_
  simp only [eX1_isDrawnSound_55, eX1_isDrawnSound_58, eX1_isDrawnSound_62, eX1_isDrawnSound_63, kx_l, tl_s, nb_0, nb_1, true_and]
  with_reducible intro _
  split
  with_reducible refine And.intro ?_ ?_
  omega
  with_reducible refine And.intro ?_ ?_
  omega
  with_reducible exact hQf _ (by repeat' first | assumption | exact ext.rf | refine ext.tr (by assumption) ?_)
  with_reducible refine And.intro ?_ ?_
  omega
  with_reducible refine And.intro ?_ ?_
  omega
  with_reducible exact hQt _ (by repeat' first | assumption | exact ext.rf | refine ext.tr (by assumption) ?_)
set_option maxHeartbeats 4000000 in
theorem sX1_isSoundAlone {a0 : Nat} (hC : CC g w0 x nA cA lA kn w) (h0 : isR w a0) (hQ : ∀ (v : Bool) (w' : Hw), ext g w w' → Q (.inl (some (.int (bI v)))) w') : WP (MX1_isSoundAlone g) Q (0, [some (.ref x), some (.ref a0)], [], w, 0, 0) := by
  obtain ⟨n, rf, md, f, gc, gl, hx, hn, hc, hl, hgc, hgl, hn0, hn1, rx, rn, rc, rl, ⟨d1, d2, d3, d4, d5, d6⟩, ⟨d7, d8, d9, d10, d11, d12⟩⟩ := hC.1.opn g
  have hQt : ∀ w', ext g w w' → Q (.inl (some (.int 1))) w' := hQ true
  have hQf : ∀ w', ext g w w' → Q (.inl (some (.int 0))) w' := hQ false
  simp only [eX1_isSoundAlone_0, wt_nil, Nat.zero_add]
  with_reducible refine And.intro ?_ ?_
  omega
  with_reducible refine And.intro ?_ ?_
  omega
  with_reducible refine And.intro ?_ ?_
  omega
  with_reducible refine sX1_isLikeItsCopy (by first | assumption | exact hgc _ _ (by assumption) | exact hgl _ _ (by assumption) | exact isR.ext (by assumption) (by repeat' first | assumption | exact ext.rf | refine ext.tr (by assumption) ?_) | exact isR.ext (hgc _ _ (by assumption)) (by repeat' first | assumption | exact ext.rf | refine ext.tr (by assumption) ?_)) ?_
  simp only [eX1_isSoundAlone_4, eX1_isSoundAlone_7, eX1_isSoundAlone_11, eX1_isSoundAlone_48, eX1_isSoundAlone_49, kx_l, wt_nil, wt_ref, tl_s, nb_0, true_and, Nat.add_zero]
  with_reducible intro _
  split
  with_reducible intro _
  with_reducible intro _
  with_reducible refine And.intro ?_ ?_
  omega
  with_reducible refine And.intro ?_ ?_
  omega
  with_reducible exact hQf _ (by repeat' first | assumption | exact ext.rf | refine ext.tr (by assumption) ?_)
  with_reducible intro _
  with_reducible intro _
  with_reducible refine And.intro ?_ ?_
  with_reducible refine go_R (by first | assumption | exact hgc _ _ (by assumption) | exact hgl _ _ (by assumption) | exact isR.ext (by assumption) (by repeat' first | assumption | exact ext.rf | refine ext.tr (by assumption) ?_) | exact isR.ext (hgc _ _ (by assumption)) (by repeat' first | assumption | exact ext.rf | refine ext.tr (by assumption) ?_)) ?_
  with_reducible intro _
  with_reducible intro _
  with_reducible intro _
  with_reducible intro _
  simp only []
  with_reducible refine And.intro ?_ ?_
  omega
  with_reducible refine And.intro ?_ ?_
  omega
  with_reducible refine And.intro ?_ ?_
  omega
  with_reducible refine sX0_isSettled (by first | assumption | exact hgc _ _ (by assumption) | exact hgl _ _ (by assumption) | exact isR.ext (by assumption) (by repeat' first | assumption | exact ext.rf | refine ext.tr (by assumption) ?_) | exact isR.ext (hgc _ _ (by assumption)) (by repeat' first | assumption | exact ext.rf | refine ext.tr (by assumption) ?_)) ?_
  simp only [kx_l, wt_nil, wt_int, tl_s, Nat.add_zero]
  with_reducible intro _
  with_reducible refine And.intro ?_ ?_
  omega
  with_reducible refine And.intro ?_ ?_
  omega
  with_reducible refine And.intro ?_ ?_
  omega
  with_reducible refine sX1_outerOf (by first | assumption | exact hgc _ _ (by assumption) | exact hgl _ _ (by assumption) | exact isR.ext (by assumption) (by repeat' first | assumption | exact ext.rf | refine ext.tr (by assumption) ?_) | exact isR.ext (hgc _ _ (by assumption)) (by repeat' first | assumption | exact ext.rf | refine ext.tr (by assumption) ?_)) ?_ ?_
  simp only [eX1_isSoundAlone_16N, kx_l, wt_nil, wt_int, tl_s, Nat.add_zero]
  with_reducible refine And.intro ?_ ?_
  with_reducible refine go_R (by first | assumption | exact hgc _ _ (by assumption) | exact hgl _ _ (by assumption) | exact isR.ext (by assumption) (by repeat' first | assumption | exact ext.rf | refine ext.tr (by assumption) ?_) | exact isR.ext (hgc _ _ (by assumption)) (by repeat' first | assumption | exact ext.rf | refine ext.tr (by assumption) ?_)) ?_
  with_reducible intro _
  with_reducible intro _
  with_reducible intro _
  with_reducible intro _
  simp only []
  with_reducible refine And.intro ?_ ?_
  omega
  with_reducible refine And.intro ?_ ?_
  omega
  with_reducible refine And.intro ?_ ?_
  omega
  with_reducible refine sX0_matchesN (by first | assumption | exact hgc _ _ (by assumption) | exact hgl _ _ (by assumption) | exact isR.ext (by assumption) (by repeat' first | assumption | exact ext.rf | refine ext.tr (by assumption) ?_) | exact isR.ext (hgc _ _ (by assumption)) (by repeat' first | assumption | exact ext.rf | refine ext.tr (by assumption) ?_)) ?_
  simp only [eX1_isSoundAlone_19, eX1_isSoundAlone_22, eX1_isSoundAlone_48, eX1_isSoundAlone_49, kx_l, wt_nil, tl_s, nb_0, true_and, Nat.add_zero]
  with_reducible intro _
  split
  with_reducible refine And.intro ?_ ?_
  omega
  with_reducible refine And.intro ?_ ?_
  omega
  with_reducible refine And.intro ?_ ?_
  omega
  with_reducible refine sX1_isOuterSound (by first | assumption | exact hgc _ _ (by assumption) | exact hgl _ _ (by assumption) | exact isR.ext (by assumption) (by repeat' first | assumption | exact ext.rf | refine ext.tr (by assumption) ?_) | exact isR.ext (hgc _ _ (by assumption)) (by repeat' first | assumption | exact ext.rf | refine ext.tr (by assumption) ?_)) ?_
  simp only [eX1_isSoundAlone_26, eX1_isSoundAlone_29, eX1_isSoundAlone_48, eX1_isSoundAlone_49, kx_l, wt_nil, tl_s, nb_0, true_and, Nat.add_zero]
  with_reducible intro _
  split
  with_reducible refine And.intro ?_ ?_
  omega
  with_reducible refine And.intro ?_ ?_
  omega
  with_reducible exact hQf _ (by repeat' first | assumption | exact ext.rf | refine ext.tr (by assumption) ?_)
  with_reducible refine And.intro ?_ ?_
  omega
  with_reducible refine And.intro ?_ ?_
  omega
  with_reducible refine And.intro ?_ ?_
  omega
  with_reducible refine sX1_isEachEndHeld (by first | assumption | exact hgc _ _ (by assumption) | exact hgl _ _ (by assumption) | exact isR.ext (by assumption) (by repeat' first | assumption | exact ext.rf | refine ext.tr (by assumption) ?_) | exact isR.ext (hgc _ _ (by assumption)) (by repeat' first | assumption | exact ext.rf | refine ext.tr (by assumption) ?_)) ?_
  simp only [eX1_isSoundAlone_33, eX1_isSoundAlone_36, eX1_isSoundAlone_48, eX1_isSoundAlone_49, kx_l, wt_nil, tl_s, nb_0, true_and]
  with_reducible intro _
  split
  with_reducible refine And.intro ?_ ?_
  omega
  with_reducible refine And.intro ?_ ?_
  omega
  with_reducible exact hQf _ (by repeat' first | assumption | exact ext.rf | refine ext.tr (by assumption) ?_)
  with_reducible refine And.intro ?_ ?_
  with_reducible exact go_C (by first | assumption | exact CC.ext hC (by repeat' first | assumption | exact ext.rf | refine ext.tr (by assumption) ?_))
  with_reducible refine And.intro ?_ ?_
  omega
  with_reducible refine And.intro ?_ ?_
  omega
  with_reducible refine And.intro ?_ ?_
  omega
  with_reducible refine sX1_isDrawnSound (by first | assumption | exact CC.ext hC (by repeat' first | assumption | exact ext.rf | refine ext.tr (by assumption) ?_)) (by first | assumption | exact hgc _ _ (by assumption) | exact hgl _ _ (by assumption) | exact isR.ext (by assumption) (by repeat' first | assumption | exact ext.rf | refine ext.tr (by assumption) ?_) | exact isR.ext (hgc _ _ (by assumption)) (by repeat' first | assumption | exact ext.rf | refine ext.tr (by assumption) ?_)) ?_
  simp only [eX1_isSoundAlone_41, eX1_isSoundAlone_44, eX1_isSoundAlone_48, eX1_isSoundAlone_49, kx_l, tl_s, nb_0, nb_1, true_and]
  with_reducible intro _
  split
  with_reducible intro _
  with_reducible intro _
  with_reducible refine And.intro ?_ ?_
  omega
  with_reducible refine And.intro ?_ ?_
  omega
  with_reducible exact hQf _ (by repeat' first | assumption | exact ext.rf | refine ext.tr (by assumption) ?_)
  with_reducible intro _
  with_reducible intro _
  with_reducible refine And.intro ?_ ?_
  omega
  with_reducible refine And.intro ?_ ?_
  omega
  with_reducible exact hQt _ (by repeat' first | assumption | exact ext.rf | refine ext.tr (by assumption) ?_)
  with_reducible refine And.intro ?_ ?_
  omega
  with_reducible refine And.intro ?_ ?_
  omega
  with_reducible exact hQf _ (by repeat' first | assumption | exact ext.rf | refine ext.tr (by assumption) ?_)
  simp only [eX1_isSoundAlone_16R, kx_l, wt_nil, wt_int, tl_s, Nat.add_zero]
  with_reducible intro _
  with_reducible intro _
  with_reducible intro _
  with_reducible intro _
  with_reducible refine And.intro ?_ ?_
  with_reducible refine go_R (by first | assumption | exact hgc _ _ (by assumption) | exact hgl _ _ (by assumption) | exact isR.ext (by assumption) (by repeat' first | assumption | exact ext.rf | refine ext.tr (by assumption) ?_) | exact isR.ext (hgc _ _ (by assumption)) (by repeat' first | assumption | exact ext.rf | refine ext.tr (by assumption) ?_)) ?_
  with_reducible intro _
  with_reducible intro _
  with_reducible intro _
  with_reducible intro _
  simp only []
  with_reducible refine And.intro ?_ ?_
  omega
  with_reducible refine And.intro ?_ ?_
  omega
  with_reducible refine And.intro ?_ ?_
  omega
  with_reducible refine sX0_matchesR (by first | assumption | exact hgc _ _ (by assumption) | exact hgl _ _ (by assumption) | exact isR.ext (by assumption) (by repeat' first | assumption | exact ext.rf | refine ext.tr (by assumption) ?_) | exact isR.ext (hgc _ _ (by assumption)) (by repeat' first | assumption | exact ext.rf | refine ext.tr (by assumption) ?_)) (by first | assumption | exact hgc _ _ (by assumption) | exact hgl _ _ (by assumption) | exact isR.ext (by assumption) (by repeat' first | assumption | exact ext.rf | refine ext.tr (by assumption) ?_) | exact isR.ext (hgc _ _ (by assumption)) (by repeat' first | assumption | exact ext.rf | refine ext.tr (by assumption) ?_)) ?_
  simp only [eX1_isSoundAlone_19, eX1_isSoundAlone_22, eX1_isSoundAlone_48, eX1_isSoundAlone_49, kx_l, wt_nil, tl_s, nb_0, true_and, Nat.add_zero]
  with_reducible intro _
  split
  with_reducible refine And.intro ?_ ?_
  omega
  with_reducible refine And.intro ?_ ?_
  omega
  with_reducible refine And.intro ?_ ?_
  omega
  with_reducible refine sX1_isOuterSound (by first | assumption | exact hgc _ _ (by assumption) | exact hgl _ _ (by assumption) | exact isR.ext (by assumption) (by repeat' first | assumption | exact ext.rf | refine ext.tr (by assumption) ?_) | exact isR.ext (hgc _ _ (by assumption)) (by repeat' first | assumption | exact ext.rf | refine ext.tr (by assumption) ?_)) ?_
  simp only [eX1_isSoundAlone_26, eX1_isSoundAlone_29, eX1_isSoundAlone_48, eX1_isSoundAlone_49, kx_l, wt_nil, tl_s, nb_0, true_and, Nat.add_zero]
  with_reducible intro _
  split
  with_reducible refine And.intro ?_ ?_
  omega
  with_reducible refine And.intro ?_ ?_
  omega
  with_reducible exact hQf _ (by repeat' first | assumption | exact ext.rf | refine ext.tr (by assumption) ?_)
  with_reducible refine And.intro ?_ ?_
  omega
  with_reducible refine And.intro ?_ ?_
  omega
  with_reducible refine And.intro ?_ ?_
  omega
  with_reducible refine sX1_isEachEndHeld (by first | assumption | exact hgc _ _ (by assumption) | exact hgl _ _ (by assumption) | exact isR.ext (by assumption) (by repeat' first | assumption | exact ext.rf | refine ext.tr (by assumption) ?_) | exact isR.ext (hgc _ _ (by assumption)) (by repeat' first | assumption | exact ext.rf | refine ext.tr (by assumption) ?_)) ?_
  simp only [eX1_isSoundAlone_33, eX1_isSoundAlone_36, eX1_isSoundAlone_48, eX1_isSoundAlone_49, kx_l, wt_nil, tl_s, nb_0, true_and]
  with_reducible intro _
  split
  with_reducible refine And.intro ?_ ?_
  omega
  with_reducible refine And.intro ?_ ?_
  omega
  with_reducible exact hQf _ (by repeat' first | assumption | exact ext.rf | refine ext.tr (by assumption) ?_)
  with_reducible refine And.intro ?_ ?_
  with_reducible exact go_C (by first | assumption | exact CC.ext hC (by repeat' first | assumption | exact ext.rf | refine ext.tr (by assumption) ?_))
  with_reducible refine And.intro ?_ ?_
  omega
  with_reducible refine And.intro ?_ ?_
  omega
  with_reducible refine And.intro ?_ ?_
  omega
  with_reducible refine sX1_isDrawnSound (by first | assumption | exact CC.ext hC (by repeat' first | assumption | exact ext.rf | refine ext.tr (by assumption) ?_)) (by first | assumption | exact hgc _ _ (by assumption) | exact hgl _ _ (by assumption) | exact isR.ext (by assumption) (by repeat' first | assumption | exact ext.rf | refine ext.tr (by assumption) ?_) | exact isR.ext (hgc _ _ (by assumption)) (by repeat' first | assumption | exact ext.rf | refine ext.tr (by assumption) ?_)) ?_
  simp only [eX1_isSoundAlone_41, eX1_isSoundAlone_44, eX1_isSoundAlone_48, eX1_isSoundAlone_49, kx_l, tl_s, nb_0, nb_1, true_and]
  with_reducible intro _
  split
  with_reducible intro _
  with_reducible intro _
  with_reducible refine And.intro ?_ ?_
  omega
  with_reducible refine And.intro ?_ ?_
  omega
  with_reducible exact hQf _ (by repeat' first | assumption | exact ext.rf | refine ext.tr (by assumption) ?_)
  with_reducible intro _
  with_reducible intro _
  with_reducible refine And.intro ?_ ?_
  omega
  with_reducible refine And.intro ?_ ?_
  omega
  with_reducible exact hQt _ (by repeat' first | assumption | exact ext.rf | refine ext.tr (by assumption) ?_)
  with_reducible refine And.intro ?_ ?_
  omega
  with_reducible refine And.intro ?_ ?_
  omega
  with_reducible exact hQf _ (by repeat' first | assumption | exact ext.rf | refine ext.tr (by assumption) ?_)
end
end
/-! 67.24.sound1.lean.txt -/
section
section
variable {g : RO} {Q : Ot → Hw → Prop} {w0 w : Hw} {x nA cA lA : Nat} {kn : Int32}
set_option maxHeartbeats 4000000 in
theorem sX1_isSameAs {a0 : Int32} {a1 : Int32} (hC : CC g w0 x nA cA lA kn w) (hXo : Q (.inr "java/lang/IndexOutOfBoundsException") w) (hXa : Q (.inr "java/lang/IllegalArgumentException") w) (hXs : Q (.inr "java/lang/IllegalStateException") w) (hQ : ∀ (v : Bool) (w' : Hw), ext g w w' → Q (.inl (some (.int (bI v)))) w') : WP (MX1_isSameAs g) Q (0, [some (.ref x), some (.int a0), some (.int a1), none], [], w, 0, 0) := by
  obtain ⟨n, rf, md, f, gc, gl, hx, hn, hc, hl, hgc, hgl, hn0, hn1, rx, rn, rc, rl, ⟨d1, d2, d3, d4, d5, d6⟩, ⟨d7, d8, d9, d10, d11, d12⟩⟩ := hC.1.opn g
  have hQt : ∀ w', ext g w w' → Q (.inl (some (.int 1))) w' := hQ true
  have hQf : ∀ w', ext g w w' → Q (.inl (some (.int 0))) w' := hQ false
  rcases sw24 a1 with rfl | rfl | rfl | hsw
  · simp only [eX1_isSameAs_0, eX1_isSameAs_4, eX1_isSameAs_9, wt_nil, Nat.zero_add]
    with_reducible refine And.intro ?_ ?_
    omega
    with_reducible refine And.intro ?_ ?_
    omega
    with_reducible refine And.intro ?_ ?_
    omega
    with_reducible refine sX1_needCard ?_ ?_
    simp only [kx_r]
    with_reducible assumption
    simp only [kx_l, wt_nil, tl_n]
    with_reducible intro _
    with_reducible intro _
    with_reducible refine And.intro ?_ ?_
    omega
    with_reducible refine And.intro ?_ ?_
    omega
    with_reducible refine And.intro ?_ ?_
    omega
    with_reducible refine sX1_needChoice ?_ ?_
    simp only [kx_r]
    with_reducible assumption
    simp only [rx, kx_l, go_s, wt_nil, tl_n, true_and]
    with_reducible intro _
    with_reducible intro _
    with_reducible refine And.intro ?_ ?_
    omega
    with_reducible refine And.intro ?_ ?_
    omega
    with_reducible refine And.intro ?_ ?_
    omega
    with_reducible refine sX1_rangeOf2 (by first | assumption | exact CC.ext (by assumption) (by assumption)) ?_ ?_ ?_
    simp only [kx_r]
    with_reducible assumption
    simp only [kx_r]
    with_reducible assumption
    simp only [eX1_isSameAs_14, eX1_isSameAs_15, eX1_isSameAs_16_0, eX1_isSameAs_44, kx_l, wt_nil, wt_ref, nl_int, tl_s, Nat.add_zero]
    with_reducible intro _
    with_reducible intro _
    with_reducible intro _
    with_reducible intro _
    with_reducible refine And.intro ?_ ?_
    omega
    with_reducible refine And.intro ?_ ?_
    omega
    with_reducible refine And.intro ?_ ?_
    omega
    with_reducible refine sX1_copyOf (by first | assumption | exact hgc _ _ (by assumption) | exact hgl _ _ (by assumption) | exact isR.ext (by assumption) (by repeat' first | assumption | exact ext.rf | refine ext.tr (by assumption) ?_) | exact isR.ext (hgc _ _ (by assumption)) (by repeat' first | assumption | exact ext.rf | refine ext.tr (by assumption) ?_)) ?_ ?_
    simp only [eX1_isSameAs_49N, kx_l, wt_nil, tl_s, Nat.add_zero]
    with_reducible refine And.intro ?_ ?_
    with_reducible refine go_R (by first | assumption | exact hgc _ _ (by assumption) | exact hgl _ _ (by assumption) | exact isR.ext (by assumption) (by repeat' first | assumption | exact ext.rf | refine ext.tr (by assumption) ?_) | exact isR.ext (hgc _ _ (by assumption)) (by repeat' first | assumption | exact ext.rf | refine ext.tr (by assumption) ?_)) ?_
    with_reducible intro _
    with_reducible intro _
    with_reducible intro _
    with_reducible intro _
    simp only []
    with_reducible refine And.intro ?_ ?_
    omega
    with_reducible refine And.intro ?_ ?_
    omega
    with_reducible refine And.intro ?_ ?_
    omega
    with_reducible refine sX0_matchesN (by first | assumption | exact hgc _ _ (by assumption) | exact hgl _ _ (by assumption) | exact isR.ext (by assumption) (by repeat' first | assumption | exact ext.rf | refine ext.tr (by assumption) ?_) | exact isR.ext (hgc _ _ (by assumption)) (by repeat' first | assumption | exact ext.rf | refine ext.tr (by assumption) ?_)) ?_
    simp only [eX1_isSameAs_52, kx_l, tl_s, nb_b, true_and]
    with_reducible intro _
    with_reducible refine And.intro ?_ ?_
    omega
    with_reducible refine And.intro ?_ ?_
    omega
    with_reducible exact hQ _ _ (by repeat' first | assumption | exact ext.rf | refine ext.tr (by assumption) ?_)
    simp only [eX1_isSameAs_49R, kx_l, wt_nil, tl_s, Nat.add_zero]
    with_reducible intro _
    with_reducible intro _
    with_reducible intro _
    with_reducible intro _
    with_reducible refine And.intro ?_ ?_
    with_reducible refine go_R (by first | assumption | exact hgc _ _ (by assumption) | exact hgl _ _ (by assumption) | exact isR.ext (by assumption) (by repeat' first | assumption | exact ext.rf | refine ext.tr (by assumption) ?_) | exact isR.ext (hgc _ _ (by assumption)) (by repeat' first | assumption | exact ext.rf | refine ext.tr (by assumption) ?_)) ?_
    with_reducible intro _
    with_reducible intro _
    with_reducible intro _
    with_reducible intro _
    simp only []
    with_reducible refine And.intro ?_ ?_
    omega
    with_reducible refine And.intro ?_ ?_
    omega
    with_reducible refine And.intro ?_ ?_
    omega
    with_reducible refine sX0_matchesR (by first | assumption | exact hgc _ _ (by assumption) | exact hgl _ _ (by assumption) | exact isR.ext (by assumption) (by repeat' first | assumption | exact ext.rf | refine ext.tr (by assumption) ?_) | exact isR.ext (hgc _ _ (by assumption)) (by repeat' first | assumption | exact ext.rf | refine ext.tr (by assumption) ?_)) (by first | assumption | exact hgc _ _ (by assumption) | exact hgl _ _ (by assumption) | exact isR.ext (by assumption) (by repeat' first | assumption | exact ext.rf | refine ext.tr (by assumption) ?_) | exact isR.ext (hgc _ _ (by assumption)) (by repeat' first | assumption | exact ext.rf | refine ext.tr (by assumption) ?_)) ?_
    simp only [eX1_isSameAs_52, kx_l, tl_s, nb_b, true_and]
    with_reducible intro _
    with_reducible refine And.intro ?_ ?_
    omega
    with_reducible refine And.intro ?_ ?_
    omega
    with_reducible exact hQ _ _ (by repeat' first | assumption | exact ext.rf | refine ext.tr (by assumption) ?_)
  · simp only [eX1_isSameAs_0, eX1_isSameAs_4, eX1_isSameAs_9, wt_nil, Nat.zero_add]
    with_reducible refine And.intro ?_ ?_
    omega
    with_reducible refine And.intro ?_ ?_
    omega
    with_reducible refine And.intro ?_ ?_
    omega
    with_reducible refine sX1_needCard ?_ ?_
    simp only [kx_r]
    with_reducible assumption
    simp only [kx_l, wt_nil, tl_n]
    with_reducible intro _
    with_reducible intro _
    with_reducible refine And.intro ?_ ?_
    omega
    with_reducible refine And.intro ?_ ?_
    omega
    with_reducible refine And.intro ?_ ?_
    omega
    with_reducible refine sX1_needChoice ?_ ?_
    simp only [kx_r]
    with_reducible assumption
    simp only [rx, kx_l, go_s, wt_nil, tl_n, true_and]
    with_reducible intro _
    with_reducible intro _
    with_reducible refine And.intro ?_ ?_
    omega
    with_reducible refine And.intro ?_ ?_
    omega
    with_reducible refine And.intro ?_ ?_
    omega
    with_reducible refine sX1_rangeOf2 (by first | assumption | exact CC.ext (by assumption) (by assumption)) ?_ ?_ ?_
    simp only [kx_r]
    with_reducible assumption
    simp only [kx_r]
    with_reducible assumption
    simp only [eX1_isSameAs_14, eX1_isSameAs_15, eX1_isSameAs_16_1, eX1_isSameAs_53, kx_l, wt_nil, nl_int, tl_s, Nat.add_zero]
    with_reducible intro _
    with_reducible intro _
    with_reducible intro _
    with_reducible intro _
    with_reducible refine And.intro ?_ ?_
    with_reducible refine go_R (by first | assumption | exact hgc _ _ (by assumption) | exact hgl _ _ (by assumption) | exact isR.ext (by assumption) (by repeat' first | assumption | exact ext.rf | refine ext.tr (by assumption) ?_) | exact isR.ext (hgc _ _ (by assumption)) (by repeat' first | assumption | exact ext.rf | refine ext.tr (by assumption) ?_)) ?_
    with_reducible intro _
    with_reducible intro _
    with_reducible intro _
    with_reducible intro _
    simp only []
    with_reducible refine And.intro ?_ ?_
    omega
    with_reducible refine And.intro ?_ ?_
    omega
    with_reducible refine And.intro ?_ ?_
    omega
    with_reducible refine sX0_matchesR (by first | assumption | exact hgc _ _ (by assumption) | exact hgl _ _ (by assumption) | exact isR.ext (by assumption) (by repeat' first | assumption | exact ext.rf | refine ext.tr (by assumption) ?_) | exact isR.ext (hgc _ _ (by assumption)) (by repeat' first | assumption | exact ext.rf | refine ext.tr (by assumption) ?_)) (by first | assumption | exact hgc _ _ (by assumption) | exact hgl _ _ (by assumption) | exact isR.ext (by assumption) (by repeat' first | assumption | exact ext.rf | refine ext.tr (by assumption) ?_) | exact isR.ext (hgc _ _ (by assumption)) (by repeat' first | assumption | exact ext.rf | refine ext.tr (by assumption) ?_)) ?_
    simp only [eX1_isSameAs_58, kx_l, tl_s, nb_b, true_and]
    with_reducible intro _
    with_reducible refine And.intro ?_ ?_
    omega
    with_reducible refine And.intro ?_ ?_
    omega
    with_reducible exact hQ _ _ (by repeat' first | assumption | exact ext.rf | refine ext.tr (by assumption) ?_)
  · simp only [eX1_isSameAs_0, eX1_isSameAs_4, eX1_isSameAs_9, wt_nil, Nat.zero_add]
    with_reducible refine And.intro ?_ ?_
    omega
    with_reducible refine And.intro ?_ ?_
    omega
    with_reducible refine And.intro ?_ ?_
    omega
    with_reducible refine sX1_needCard ?_ ?_
    simp only [kx_r]
    with_reducible assumption
    simp only [kx_l, wt_nil, tl_n]
    with_reducible intro _
    with_reducible intro _
    with_reducible refine And.intro ?_ ?_
    omega
    with_reducible refine And.intro ?_ ?_
    omega
    with_reducible refine And.intro ?_ ?_
    omega
    with_reducible refine sX1_needChoice ?_ ?_
    simp only [kx_r]
    with_reducible assumption
    simp only [rx, kx_l, go_s, wt_nil, tl_n, true_and]
    with_reducible intro _
    with_reducible intro _
    with_reducible refine And.intro ?_ ?_
    omega
    with_reducible refine And.intro ?_ ?_
    omega
    with_reducible refine And.intro ?_ ?_
    omega
    with_reducible refine sX1_rangeOf2 (by first | assumption | exact CC.ext (by assumption) (by assumption)) ?_ ?_ ?_
    simp only [kx_r]
    with_reducible assumption
    simp only [kx_r]
    with_reducible assumption
    simp only [eX1_isSameAs_14, eX1_isSameAs_15, eX1_isSameAs_16_2, eX1_isSameAs_59, kx_l, wt_nil, wt_ref, nl_int, tl_s, Nat.add_zero]
    with_reducible intro _
    with_reducible intro _
    with_reducible intro _
    with_reducible intro _
    with_reducible refine And.intro ?_ ?_
    omega
    with_reducible refine And.intro ?_ ?_
    omega
    with_reducible refine And.intro ?_ ?_
    omega
    with_reducible refine sX1_outerOf (by first | assumption | exact hgc _ _ (by assumption) | exact hgl _ _ (by assumption) | exact isR.ext (by assumption) (by repeat' first | assumption | exact ext.rf | refine ext.tr (by assumption) ?_) | exact isR.ext (hgc _ _ (by assumption)) (by repeat' first | assumption | exact ext.rf | refine ext.tr (by assumption) ?_)) ?_ ?_
    simp only [eX1_isSameAs_64N, kx_l, wt_nil, tl_s, Nat.add_zero]
    with_reducible refine And.intro ?_ ?_
    with_reducible refine go_R (by first | assumption | exact hgc _ _ (by assumption) | exact hgl _ _ (by assumption) | exact isR.ext (by assumption) (by repeat' first | assumption | exact ext.rf | refine ext.tr (by assumption) ?_) | exact isR.ext (hgc _ _ (by assumption)) (by repeat' first | assumption | exact ext.rf | refine ext.tr (by assumption) ?_)) ?_
    with_reducible intro _
    with_reducible intro _
    with_reducible intro _
    with_reducible intro _
    simp only []
    with_reducible refine And.intro ?_ ?_
    omega
    with_reducible refine And.intro ?_ ?_
    omega
    with_reducible refine And.intro ?_ ?_
    omega
    with_reducible refine sX0_matchesN (by first | assumption | exact hgc _ _ (by assumption) | exact hgl _ _ (by assumption) | exact isR.ext (by assumption) (by repeat' first | assumption | exact ext.rf | refine ext.tr (by assumption) ?_) | exact isR.ext (hgc _ _ (by assumption)) (by repeat' first | assumption | exact ext.rf | refine ext.tr (by assumption) ?_)) ?_
    simp only [eX1_isSameAs_67, kx_l, tl_s, nb_b, true_and]
    with_reducible intro _
    with_reducible refine And.intro ?_ ?_
    omega
    with_reducible refine And.intro ?_ ?_
    omega
    with_reducible exact hQ _ _ (by repeat' first | assumption | exact ext.rf | refine ext.tr (by assumption) ?_)
    simp only [eX1_isSameAs_64R, kx_l, wt_nil, tl_s, Nat.add_zero]
    with_reducible intro _
    with_reducible intro _
    with_reducible intro _
    with_reducible intro _
    with_reducible refine And.intro ?_ ?_
    with_reducible refine go_R (by first | assumption | exact hgc _ _ (by assumption) | exact hgl _ _ (by assumption) | exact isR.ext (by assumption) (by repeat' first | assumption | exact ext.rf | refine ext.tr (by assumption) ?_) | exact isR.ext (hgc _ _ (by assumption)) (by repeat' first | assumption | exact ext.rf | refine ext.tr (by assumption) ?_)) ?_
    with_reducible intro _
    with_reducible intro _
    with_reducible intro _
    with_reducible intro _
    simp only []
    with_reducible refine And.intro ?_ ?_
    omega
    with_reducible refine And.intro ?_ ?_
    omega
    with_reducible refine And.intro ?_ ?_
    omega
    with_reducible refine sX0_matchesR (by first | assumption | exact hgc _ _ (by assumption) | exact hgl _ _ (by assumption) | exact isR.ext (by assumption) (by repeat' first | assumption | exact ext.rf | refine ext.tr (by assumption) ?_) | exact isR.ext (hgc _ _ (by assumption)) (by repeat' first | assumption | exact ext.rf | refine ext.tr (by assumption) ?_)) (by first | assumption | exact hgc _ _ (by assumption) | exact hgl _ _ (by assumption) | exact isR.ext (by assumption) (by repeat' first | assumption | exact ext.rf | refine ext.tr (by assumption) ?_) | exact isR.ext (hgc _ _ (by assumption)) (by repeat' first | assumption | exact ext.rf | refine ext.tr (by assumption) ?_)) ?_
    simp only [eX1_isSameAs_67, kx_l, tl_s, nb_b, true_and]
    with_reducible intro _
    with_reducible refine And.intro ?_ ?_
    omega
    with_reducible refine And.intro ?_ ?_
    omega
    with_reducible exact hQ _ _ (by repeat' first | assumption | exact ext.rf | refine ext.tr (by assumption) ?_)
  · simp only [eX1_isSameAs_0, eX1_isSameAs_4, eX1_isSameAs_9, wt_nil, Nat.zero_add]
    with_reducible refine And.intro ?_ ?_
    omega
    with_reducible refine And.intro ?_ ?_
    omega
    with_reducible refine And.intro ?_ ?_
    omega
    with_reducible refine sX1_needCard ?_ ?_
    simp only [kx_r]
    with_reducible assumption
    simp only [kx_l, wt_nil, tl_n]
    with_reducible intro _
    with_reducible intro _
    with_reducible refine And.intro ?_ ?_
    omega
    with_reducible refine And.intro ?_ ?_
    omega
    with_reducible refine And.intro ?_ ?_
    omega
    with_reducible refine sX1_needChoice ?_ ?_
    simp only [kx_r]
    with_reducible assumption
    simp only [rx, kx_l, go_s, wt_nil, tl_n, true_and]
    with_reducible intro _
    with_reducible intro _
    with_reducible refine And.intro ?_ ?_
    omega
    with_reducible refine And.intro ?_ ?_
    omega
    with_reducible refine And.intro ?_ ?_
    omega
    with_reducible refine sX1_rangeOf2 (by first | assumption | exact CC.ext (by assumption) (by assumption)) ?_ ?_ ?_
    simp only [kx_r]
    with_reducible assumption
    simp only [kx_r]
    with_reducible assumption
    simp only [eX1_isSameAs_14, eX1_isSameAs_15, eX1_isSameAs_68, eX1_isSameAs_16_d hsw, kx_l, nl_int, tl_s, nb_0, true_and]
    with_reducible intro _
    with_reducible intro _
    with_reducible intro _
    with_reducible intro _
    with_reducible refine And.intro ?_ ?_
    omega
    with_reducible refine And.intro ?_ ?_
    omega
    with_reducible exact hQf _ (by repeat' first | assumption | exact ext.rf | refine ext.tr (by assumption) ?_)
set_option maxHeartbeats 4000000 in
theorem lX1_isSound_2 (hQ : ∀ (v : Bool) (w' : Hw), ext g w w' → Q (.inl (some (.int (bI v)))) w') : ∀ (d : Nat) (i1 : Int32) (i2 : Option Value) (w1 : Hw) (k m : Nat), CC g w0 x nA cA lA kn w1 → ext g w w1 → ¬ i1 < 0 → (6 : Int32).toInt - i1.toInt ≤ (d : Int) → k + 4 * d ≤ 24 → m + 16 * d ≤ 96 → WP (MX1_isSound g) Q (2, [some (.ref x), some (.int i1), i2], [], w1, k, m) := by
  have hQt : ∀ w', ext g w w' → Q (.inl (some (.int 1))) w' := hQ true
  have hQf : ∀ w', ext g w w' → Q (.inl (some (.int 0))) w' := hQ false
  intro d
  induction d with
  | zero =>
    intro i1 i2 w1 k m hC he z0 hm hk hs
    obtain ⟨n, rf, md, f, gc, gl, hx, hn, hc, hl, hgc, hgl, hn0, hn1, rx, rn, rc, rl, ⟨d1, d2, d3, d4, d5, d6⟩, ⟨d7, d8, d9, d10, d11, d12⟩⟩ := hC.1.opn g
    rw [eX1_isSound_2]
    simp only [eX1_isSound_3, eX1_isSound_8, eX1_isSound_12, eX1_isSound_14, eX1_isSound_14N, eX1_isSound_15, eX1_isSound_15N, eX1_isSound_16R, eX1_isSound_16N, eX1_isSound_19, eX1_isSound_37, eX1_isSound_43, rx, rc, ite_le, n45, or_false, go_s, gq_s, wt_nil, nl_int, nl_ref, rf_st, g0, gS, ex1, true_and, Nat.add_zero]
    split
    with_reducible refine And.intro ?_ ?_
    with_reducible exact vpi6 (by assumption) (by assumption)
    with_reducible refine And.intro ?_ ?_
    with_reducible exact (ic_z (by assumption) (by assumption)).elim
    with_reducible exact (ic_z (by assumption) (by assumption)).elim
    with_reducible refine And.intro ?_ ?_
    omega
    with_reducible refine And.intro ?_ ?_
    omega
    with_reducible refine And.intro ?_ ?_
    omega
    with_reducible refine sX1_isEachFoundInPile (by first | assumption | exact CC.ext hC (by repeat' first | assumption | exact ext.rf | refine ext.tr (by assumption) ?_)) ?_
    simp only [eX1_isSound_47, kx_l, tl_s, nb_b, true_and]
    with_reducible intro _
    with_reducible refine And.intro ?_ ?_
    omega
    with_reducible refine And.intro ?_ ?_
    omega
    with_reducible exact hQ _ _ (by repeat' first | assumption | exact ext.rf | refine ext.tr (by assumption) ?_)
  | succ d ih =>
    intro i1 i2 w1 k m hC he z0 hm hk hs
    obtain ⟨n, rf, md, f, gc, gl, hx, hn, hc, hl, hgc, hgl, hn0, hn1, rx, rn, rc, rl, ⟨d1, d2, d3, d4, d5, d6⟩, ⟨d7, d8, d9, d10, d11, d12⟩⟩ := hC.1.opn g
    rw [eX1_isSound_2]
    simp only [eX1_isSound_3, eX1_isSound_8, eX1_isSound_12, eX1_isSound_14, eX1_isSound_14N, eX1_isSound_15, eX1_isSound_15N, eX1_isSound_16R, eX1_isSound_16N, eX1_isSound_19, eX1_isSound_37, eX1_isSound_43, rx, rc, ite_le, n45, or_false, go_s, gq_s, wt_nil, nl_int, nl_ref, rf_st, g0, gS, ex1, true_and, Nat.add_zero]
    split
    with_reducible refine And.intro ?_ ?_
    with_reducible exact vpi6 (by assumption) (by assumption)
    with_reducible refine And.intro ?_ ?_
    with_reducible intro _
    with_reducible exact ih _ _ _ _ _ (by first | assumption | exact CC.ext hC (by repeat' first | assumption | exact ext.rf | refine ext.tr (by assumption) ?_)) (by repeat' first | assumption | exact ext.rf | refine ext.tr (by assumption) ?_) (ic_p (by assumption) (by assumption)) (ic_s (by assumption) (by assumption)) (by omega) (by omega)
    with_reducible intro _
    with_reducible intro _
    with_reducible refine And.intro ?_ ?_
    omega
    with_reducible refine And.intro ?_ ?_
    omega
    with_reducible refine And.intro ?_ ?_
    omega
    with_reducible refine sX1_isSoundAlone (by first | assumption | exact CC.ext hC (by repeat' first | assumption | exact ext.rf | refine ext.tr (by assumption) ?_)) (by first | assumption | exact hgc _ _ (by assumption) | exact hgl _ _ (by assumption) | exact isR.ext (by assumption) (by repeat' first | assumption | exact ext.rf | refine ext.tr (by assumption) ?_) | exact isR.ext (hgc _ _ (by assumption)) (by repeat' first | assumption | exact ext.rf | refine ext.tr (by assumption) ?_)) ?_
    simp only [eX1_isSound_24, eX1_isSound_27, eX1_isSound_35, kx_l, wt_nil, tl_s, nb_0, true_and, Nat.add_zero]
    with_reducible intro _
    split
    with_reducible intro _
    with_reducible intro _
    with_reducible refine And.intro ?_ ?_
    omega
    with_reducible refine And.intro ?_ ?_
    omega
    with_reducible exact hQf _ (by repeat' first | assumption | exact ext.rf | refine ext.tr (by assumption) ?_)
    with_reducible intro _
    with_reducible intro _
    with_reducible refine And.intro ?_ ?_
    with_reducible exact go_C (by first | assumption | exact CC.ext hC (by repeat' first | assumption | exact ext.rf | refine ext.tr (by assumption) ?_))
    with_reducible refine And.intro ?_ ?_
    omega
    with_reducible refine And.intro ?_ ?_
    omega
    with_reducible refine And.intro ?_ ?_
    omega
    with_reducible refine sX1_isSameToAndFro (by first | assumption | exact CC.ext hC (by repeat' first | assumption | exact ext.rf | refine ext.tr (by assumption) ?_)) (by first | assumption | exact hgc _ _ (by assumption) | exact hgl _ _ (by assumption) | exact isR.ext (by assumption) (by repeat' first | assumption | exact ext.rf | refine ext.tr (by assumption) ?_) | exact isR.ext (hgc _ _ (by assumption)) (by repeat' first | assumption | exact ext.rf | refine ext.tr (by assumption) ?_)) ?_
    simp only [eX1_isSound_32, eX1_isSound_35, eX1_isSound_37, kx_l, nl_ref, tl_s, nb_0, true_and]
    with_reducible intro _
    split
    with_reducible refine And.intro ?_ ?_
    omega
    with_reducible refine And.intro ?_ ?_
    omega
    with_reducible exact hQf _ (by repeat' first | assumption | exact ext.rf | refine ext.tr (by assumption) ?_)
    with_reducible exact ih _ _ _ _ _ (by first | assumption | exact CC.ext hC (by repeat' first | assumption | exact ext.rf | refine ext.tr (by assumption) ?_)) (by repeat' first | assumption | exact ext.rf | refine ext.tr (by assumption) ?_) (ic_p (by assumption) (by assumption)) (ic_s (by assumption) (by assumption)) (by omega) (by omega)
    with_reducible refine And.intro ?_ ?_
    omega
    with_reducible refine And.intro ?_ ?_
    omega
    with_reducible refine And.intro ?_ ?_
    omega
    with_reducible refine sX1_isEachFoundInPile (by first | assumption | exact CC.ext hC (by repeat' first | assumption | exact ext.rf | refine ext.tr (by assumption) ?_)) ?_
    simp only [eX1_isSound_47, kx_l, tl_s, nb_b, true_and]
    with_reducible intro _
    with_reducible refine And.intro ?_ ?_
    omega
    with_reducible refine And.intro ?_ ?_
    omega
    with_reducible exact hQ _ _ (by repeat' first | assumption | exact ext.rf | refine ext.tr (by assumption) ?_)
set_option maxHeartbeats 4000000 in
theorem sX1_isSound  (hC : CC g w0 x nA cA lA kn w) (hQ : ∀ (v : Bool) (w' : Hw), ext g w w' → Q (.inl (some (.int (bI v)))) w') : WP (MX1_isSound g) Q (0, [some (.ref x), none, none], [], w, 0, 0) := by
  obtain ⟨n, rf, md, f, gc, gl, hx, hn, hc, hl, hgc, hgl, hn0, hn1, rx, rn, rc, rl, ⟨d1, d2, d3, d4, d5, d6⟩, ⟨d7, d8, d9, d10, d11, d12⟩⟩ := hC.1.opn g
  have hQt : ∀ w', ext g w w' → Q (.inl (some (.int 1))) w' := hQ true
  have hQf : ∀ w', ext g w w' → Q (.inl (some (.int 0))) w' := hQ false
  simp only [eX1_isSound_0, nl_ref]
  with_reducible exact lX1_isSound_2 hQ 6 _ _ _ _ _ hC ext.rf (by decide) (by decide) (by decide) (by decide)
end
end
/-! 67.24.sound2.lean.txt -/
section
section
variable {g : RO} {Q : Ot → Hw → Prop} {w0 w : Hw} {x nA cA lA : Nat} {kn : Int32}
set_option maxHeartbeats 4000000 in
theorem lX1_digest_36  (hC : CC g w0 x nA cA lA kn w) (hQ : ∀ (v : Int64) (w' : Hw), ext g w w' → Q (.inl (some (.long v))) w') : ∀ (n rf md : Int32) (f : Nat → Int64) (gc gl : Nat → Option Nat), RO5 g w x nA cA lA n rf kn md f gc gl → ∀ (d : Nat) (i1 : Int64) (i3 : Int32) (k m : Nat), ¬ i3 < 0 → (6 : Int32).toInt - i3.toInt ≤ (d : Int) → k ≤ 0 → m ≤ 0 → WP (MX1_digest g) Q (36, [some (.ref x), some (.long i1), none, some (.int i3)], [], w, k, m) := by
  rintro n rf md f gc gl ⟨hx, hn, hc, hl, hgc, hgl, hn0, hn1, rx, rn, rc, rl, ⟨d1, d2, d3, d4, d5, d6⟩, ⟨d7, d8, d9, d10, d11, d12⟩⟩ d
  induction d with
  | zero =>
    intro i1 i3 k m z0 hm hk hs
    rw [eX1_digest_36]
    simp only [eX1_digest_37, eX1_digest_42, eX1_digest_48, eX1_digest_50R, eX1_digest_50N, eX1_digest_60, rx, rc, ite_le, n45, or_false, go_s, gq_s, wt_nil, rf_st, g0, gS, ex1, true_and, Nat.add_zero]
    split
    with_reducible refine And.intro ?_ ?_
    with_reducible exact vpi6 (by assumption) (by assumption)
    with_reducible refine And.intro ?_ ?_
    with_reducible exact (ic_z (by assumption) (by assumption)).elim
    with_reducible exact (ic_z (by assumption) (by assumption)).elim
    with_reducible refine And.intro ?_ ?_
    omega
    with_reducible refine And.intro ?_ ?_
    omega
    with_reducible refine And.intro ?_ ?_
    omega
    with_reducible refine sX1_withWhichAndPile (by first | assumption | exact CC.ext hC (by repeat' first | assumption | exact ext.rf | refine ext.tr (by assumption) ?_)) ?_
    simp only [eX1_digest_65, eX1_digest_67, rx, kx_l, go_s, wt_nil, wt_long, nl_ref, tl_s, true_and, Nat.add_zero]
    with_reducible intro _
    with_reducible refine And.intro ?_ ?_
    omega
    with_reducible refine And.intro ?_ ?_
    omega
    with_reducible refine And.intro ?_ ?_
    omega
    with_reducible refine sX1_isSound (by first | assumption | exact CC.ext hC (by repeat' first | assumption | exact ext.rf | refine ext.tr (by assumption) ?_)) ?_
    simp only [eX1_digest_71, kx_l, wt_nil, wt_long, tl_s, Nat.add_zero]
    with_reducible intro _
    with_reducible intro _
    with_reducible intro _
    with_reducible refine And.intro ?_ ?_
    omega
    with_reducible refine And.intro ?_ ?_
    omega
    with_reducible refine And.intro ?_ ?_
    omega
    with_reducible refine sX1_asNumber ?_
    simp only [eX1_digest_74, kx_l, wt_nil, tl_s, Nat.add_zero]
    with_reducible intro _
    with_reducible refine And.intro ?_ ?_
    omega
    with_reducible refine And.intro ?_ ?_
    omega
    with_reducible refine And.intro ?_ ?_
    omega
    with_reducible refine sX1_with ?_
    simp only [eX1_digest_78, kx_l, tl_s]
    with_reducible intro _
    with_reducible refine And.intro ?_ ?_
    omega
    with_reducible refine And.intro ?_ ?_
    omega
    with_reducible exact hQ _ _ (by repeat' first | assumption | exact ext.rf | refine ext.tr (by assumption) ?_)
  | succ d ih =>
    intro i1 i3 k m z0 hm hk hs
    rw [eX1_digest_36]
    simp only [eX1_digest_37, eX1_digest_42, eX1_digest_48, eX1_digest_50R, eX1_digest_50N, eX1_digest_60, rx, rc, ite_le, n45, or_false, go_s, gq_s, wt_nil, rf_st, g0, gS, ex1, true_and, Nat.add_zero]
    split
    with_reducible refine And.intro ?_ ?_
    with_reducible exact vpi6 (by assumption) (by assumption)
    with_reducible refine And.intro ?_ ?_
    with_reducible intro _
    with_reducible refine And.intro ?_ ?_
    omega
    with_reducible refine And.intro ?_ ?_
    omega
    with_reducible refine And.intro ?_ ?_
    omega
    with_reducible refine sX1_withCardN (by first | assumption | exact CC.ext hC (by repeat' first | assumption | exact ext.rf | refine ext.tr (by assumption) ?_)) ?_
    simp only [eX1_digest_53, kx_l, nl_ref, nl_none, tl_s]
    with_reducible intro _
    with_reducible exact ih _ _ _ _ (ic_p (by assumption) (by assumption)) (ic_s (by assumption) (by assumption)) (by first | assumption | omega) (by first | assumption | omega)
    with_reducible intro _
    with_reducible intro _
    with_reducible refine And.intro ?_ ?_
    omega
    with_reducible refine And.intro ?_ ?_
    omega
    with_reducible refine And.intro ?_ ?_
    omega
    with_reducible refine sX1_withCardR (by first | assumption | exact CC.ext hC (by repeat' first | assumption | exact ext.rf | refine ext.tr (by assumption) ?_)) (by first | assumption | exact hgc _ _ (by assumption) | exact hgl _ _ (by assumption) | exact isR.ext (by assumption) (by repeat' first | assumption | exact ext.rf | refine ext.tr (by assumption) ?_) | exact isR.ext (hgc _ _ (by assumption)) (by repeat' first | assumption | exact ext.rf | refine ext.tr (by assumption) ?_)) ?_
    simp only [eX1_digest_53, kx_l, nl_ref, nl_none, tl_s]
    with_reducible intro _
    with_reducible exact ih _ _ _ _ (ic_p (by assumption) (by assumption)) (ic_s (by assumption) (by assumption)) (by first | assumption | omega) (by first | assumption | omega)
    with_reducible refine And.intro ?_ ?_
    omega
    with_reducible refine And.intro ?_ ?_
    omega
    with_reducible refine And.intro ?_ ?_
    omega
    with_reducible refine sX1_withWhichAndPile (by first | assumption | exact CC.ext hC (by repeat' first | assumption | exact ext.rf | refine ext.tr (by assumption) ?_)) ?_
    simp only [eX1_digest_65, eX1_digest_67, rx, kx_l, go_s, wt_nil, wt_long, nl_ref, tl_s, true_and, Nat.add_zero]
    with_reducible intro _
    with_reducible refine And.intro ?_ ?_
    omega
    with_reducible refine And.intro ?_ ?_
    omega
    with_reducible refine And.intro ?_ ?_
    omega
    with_reducible refine sX1_isSound (by first | assumption | exact CC.ext hC (by repeat' first | assumption | exact ext.rf | refine ext.tr (by assumption) ?_)) ?_
    simp only [eX1_digest_71, kx_l, wt_nil, wt_long, tl_s, Nat.add_zero]
    with_reducible intro _
    with_reducible intro _
    with_reducible intro _
    with_reducible refine And.intro ?_ ?_
    omega
    with_reducible refine And.intro ?_ ?_
    omega
    with_reducible refine And.intro ?_ ?_
    omega
    with_reducible refine sX1_asNumber ?_
    simp only [eX1_digest_74, kx_l, wt_nil, tl_s, Nat.add_zero]
    with_reducible intro _
    with_reducible refine And.intro ?_ ?_
    omega
    with_reducible refine And.intro ?_ ?_
    omega
    with_reducible refine And.intro ?_ ?_
    omega
    with_reducible refine sX1_with ?_
    simp only [eX1_digest_78, kx_l, tl_s]
    with_reducible intro _
    with_reducible refine And.intro ?_ ?_
    omega
    with_reducible refine And.intro ?_ ?_
    omega
    with_reducible exact hQ _ _ (by repeat' first | assumption | exact ext.rf | refine ext.tr (by assumption) ?_)
set_option maxHeartbeats 4000000 in
theorem lX1_digest_10  (hC : CC g w0 x nA cA lA kn w) (hQ : ∀ (v : Int64) (w' : Hw), ext g w w' → Q (.inl (some (.long v))) w') : ∀ (n rf md : Int32) (f : Nat → Int64) (gc gl : Nat → Option Nat), RO5 g w x nA cA lA n rf kn md f gc gl → ∀ (d : Nat) (i1 : Int64) (i3 : Int32) (k m : Nat), ¬ i3 < 0 → (8 : Int32).toInt - i3.toInt ≤ (d : Int) → k ≤ 0 → m ≤ 0 → WP (MX1_digest g) Q (10, [some (.ref x), some (.long i1), none, some (.int i3)], [], w, k, m) := by
  rintro n rf md f gc gl ⟨hx, hn, hc, hl, hgc, hgl, hn0, hn1, rx, rn, rc, rl, ⟨d1, d2, d3, d4, d5, d6⟩, ⟨d7, d8, d9, d10, d11, d12⟩⟩ d
  induction d with
  | zero =>
    intro i1 i3 k m z0 hm hk hs
    rw [eX1_digest_10]
    simp only [eX1_digest_11, eX1_digest_16, eX1_digest_22, eX1_digest_24, eX1_digest_34, rx, rn, ite_le, go_s, gl_s, wt_nil, nl_none, g0, ex1, true_and, Nat.add_zero]
    split
    with_reducible refine And.intro ?_ ?_
    with_reducible exact vpi8 (by assumption) (by assumption)
    with_reducible refine And.intro ?_ ?_
    with_reducible exact (ic_z (by assumption) (by assumption)).elim
    with_reducible refine And.intro ?_ ?_
    with_reducible exact (ic_z (by assumption) (by assumption)).elim
    with_reducible refine And.intro ?_ ?_
    with_reducible exact (ic_z (by assumption) (by assumption)).elim
    with_reducible exact (ic_z (by assumption) (by assumption)).elim
    with_reducible exact lX1_digest_36 hC hQ _ _ _ _ _ _ ⟨hx, hn, hc, hl, hgc, hgl, hn0, hn1, rx, rn, rc, rl, ⟨d1, d2, d3, d4, d5, d6⟩, ⟨d7, d8, d9, d10, d11, d12⟩⟩ 70 _ _ _ _ (by first | decide | assumption) (by first | decide | exact n12 (by assumption) | exact n60 (by assumption)) (by first | decide | omega) (by first | decide | omega)
  | succ d ih =>
    intro i1 i3 k m z0 hm hk hs
    rw [eX1_digest_10]
    simp only [eX1_digest_11, eX1_digest_16, eX1_digest_22, eX1_digest_24, eX1_digest_34, rx, rn, ite_le, go_s, gl_s, wt_nil, nl_none, g0, ex1, true_and, Nat.add_zero]
    split
    with_reducible refine And.intro ?_ ?_
    with_reducible exact vpi8 (by assumption) (by assumption)
    with_reducible refine And.intro ?_ ?_
    omega
    with_reducible refine And.intro ?_ ?_
    omega
    with_reducible refine And.intro ?_ ?_
    omega
    with_reducible refine sX1_withNumber (by first | assumption | exact CC.ext hC (by repeat' first | assumption | exact ext.rf | refine ext.tr (by assumption) ?_)) ?_
    simp only [eX1_digest_27, kx_l, nl_ref, nl_none, tl_s]
    with_reducible intro _
    with_reducible exact ih _ _ _ _ (ic_p (by assumption) (by assumption)) (ic_s (by assumption) (by assumption)) (by first | assumption | omega) (by first | assumption | omega)
    with_reducible exact lX1_digest_36 hC hQ _ _ _ _ _ _ ⟨hx, hn, hc, hl, hgc, hgl, hn0, hn1, rx, rn, rc, rl, ⟨d1, d2, d3, d4, d5, d6⟩, ⟨d7, d8, d9, d10, d11, d12⟩⟩ 70 _ _ _ _ (by first | decide | assumption) (by first | decide | exact n12 (by assumption) | exact n60 (by assumption)) (by first | decide | omega) (by first | decide | omega)
set_option maxHeartbeats 4000000 in
theorem sX1_digest  (hC : CC g w0 x nA cA lA kn w) (hQ : ∀ (v : Int64) (w' : Hw), ext g w w' → Q (.inl (some (.long v))) w') : WP (MX1_digest g) Q (0, [some (.ref x), none, none, none], [], w, 0, 0) := by
  obtain ⟨n, rf, md, f, gc, gl, hx, hn, hc, hl, hgc, hgl, hn0, hn1, rx, rn, rc, rl, ⟨d1, d2, d3, d4, d5, d6⟩, ⟨d7, d8, d9, d10, d11, d12⟩⟩ := hC.1.opn g
  simp only [eX1_digest_0, rx, go_s, wt_nil, true_and, Nat.add_zero]
  with_reducible refine And.intro ?_ ?_
  omega
  with_reducible refine And.intro ?_ ?_
  omega
  with_reducible refine And.intro ?_ ?_
  omega
  with_reducible refine sX1_withHouse (by first | assumption | exact CC.ext hC (by repeat' first | assumption | exact ext.rf | refine ext.tr (by assumption) ?_)) ?_
  simp only [eX1_digest_7, kx_l, nl_ref, nl_none, tl_s]
  with_reducible intro _
  with_reducible exact lX1_digest_10 hC hQ _ _ _ _ _ _ ⟨hx, hn, hc, hl, hgc, hgl, hn0, hn1, rx, rn, rc, rl, ⟨d1, d2, d3, d4, d5, d6⟩, ⟨d7, d8, d9, d10, d11, d12⟩⟩ 70 _ _ _ _ (by first | decide | assumption) (by first | decide | exact n12 (by assumption) | exact n60 (by assumption)) (by first | decide | omega) (by first | decide | omega)
end
end
/-! 67.25.pile0.lean.txt -/
section
section
variable {g : RO} {Q : Ot → Hw → Prop} {w0 w : Hw} {x nA cA lA : Nat} {kn : Int32}
theorem cg_sub {i : Int32} (h : 0 < i) : (i - 1).toInt = i.toInt - 1 := by
  have h1 := i32_lt h
  have h2 := i32_bd i
  have e : (0 : Int32).toInt = 0 := rfl
  have e1 : (1 : Int32).toInt = 1 := rfl
  rw [i32_sub (by omega) (by omega), e1]
theorem cg2 {n : Int32} (h : 0 < n) (h3 : ¬ 12 < n) : vp_in (n - 1) 12 := by
  have h1 := i32_lt h
  have e : (0 : Int32).toInt = 0 := rfl
  have k := cg_sub h
  exact vpi12 (n := n) (i32_of_nlt (by rw [k, e]; omega)) (i32_of_lt (by omega)) h3
theorem cg3 {n : Int32} (h : 0 < n) : ¬ n - 1 < 0 := by
  have h1 := i32_lt h
  have e : (0 : Int32).toInt = 0 := rfl
  exact i32_of_nlt (by rw [cg_sub h, e]; omega)
theorem cg4 {n : Int32} (h : 0 < n) (h3 : ¬ 12 < n) : ¬ 12 < n - 1 := by
  have h1 := i32_nlt h3
  exact i32_of_nlt (by rw [cg_sub h]; omega)
end
end
/-! 67.25.pile1.lean.txt -/
section
section
variable {g : RO} {Q : Ot → Hw → Prop} {w0 w : Hw} {x nA cA lA : Nat} {kn : Int32}
theorem tn_2 : (¬ (2 : Int32) = 0) = True := eq_true (by decide)
end
end
/-! 67.25.pile2.lean.txt -/
section
section
variable {g : RO} {Q : Ot → Hw → Prop} {w0 w : Hw} {x nA cA lA : Nat} {kn : Int32}
theorem i8 : (8 : Int32).toNatClampNeg = 8 := rfl
theorem i6 : (6 : Int32).toNatClampNeg = 6 := rfl
theorem i12 : (12 : Int32).toNatClampNeg = 12 := rfl
theorem n8 : ((8 : Int32) < 0) = False := eq_false (by decide)
theorem n6 : ((6 : Int32) < 0) = False := eq_false (by decide)
theorem n12' : ((12 : Int32) < 0) = False := eq_false (by decide)
end
end
/-! 68.text8z.lean.txt -/
section
section
variable {g : RO} {Q : Ot → Hw → Prop} {w0 w : Hw}
theorem t10l : (¬ (10 : Int64) = 0) = True := eq_true (by decide)
theorem h45 : ((255 : Int32) < 45) = False := eq_false (by decide)
theorem h32 : ((255 : Int32) < 32) = False := eq_false (by decide)
set_option maxHeartbeats 4000000 in
theorem lX1_appendBackwards_47 {b d N k n p0 : Nat} {x y : Int64} {c i : Int32} {c0 : Int} (hS : SG g) (hD : DG g w0) (hT : TS g w0 b d N c w) (hN : CP N) (hp0 : pC N ≤ p0) (h0 : c0 ≤ c.toInt) (h1 : c.toInt < 142) (h2 : c.toInt < c0 + 20) (hk : k + pC N ≤ 3) (hn : n + pS N ≤ 246) (hQ : ∀ (d' N' : Nat) (c' : Int32) (w' : Hw), CP N' → pC N' ≤ p0 → c0 ≤ c'.toInt → c'.toInt ≤ c0 + 20 → TS g w0 b d' N' c' w' → Q (.inl none) w') : WP (MX1_appendBackwards g) Q (47, [some (.ref b), some (.long x), none, some (.long y), none, some (.int i)], [], w, k, n) := by
  obtain ⟨ml, f, hb, hd, hf, hc0, hc1, rb, rdd, n1, n2⟩ := hT.opn g
  obtain ⟨k1, k2, k3, k4⟩ := kI (i := 45) hN hb hd hc0 hc1 (by omega)
  have ek : k + kfI [.ref b, .int 45] w ≤ 3 := by omega
  have es : n + sfI [.ref b, .int 45] w ≤ 246 := by omega
  have e1 := i32_p1 hc0 (by omega)
  simp only [eX1_appendBackwards_47, eX1_appendBackwards_53, eX1_appendBackwards_53N, eX1_appendBackwards_54, ite_le, n45, n54, true_or, or_true, false_or, or_false, false_and, and_false, kx_l, kx_r, go_s, gl_s, gi_s, gb_s2, gb_s3, gq_s, wt_nil, wt_int, wt_long, wt_ref, wt_null, nl_int, nl_long, nl_ref, nl_null, nl_none, rf_n, rf_s, rf_st, tl_s, tl_n, g0, gS, ex1, nb_b, nb_0, nb_1, nf_i, nf_l, nf_ra, nf_ro, nf_na, nf_no, nf_b0, nf_z0, t45_4, t45_5, true_and, and_true, List.set_cons_zero, List.set_cons_succ, List.length_cons, List.length_nil, rd_s, upw_s, ne_eq, not_false_eq_true, Nat.zero_add, Nat.add_zero, if_true, if_false, eq_self, rb, ek, es]
  split
  · repeat' first | with_reducible refine And.intro ?_ ?_ | omega
    refine sapC hS hT hN (by omega) h45 (fun d' N' w' q1 q2 q3 q4 => ?_)
    simp only [eX1_appendBackwards_59, eX1_appendBackwards_59R, eX1_appendBackwards_59N, eX1_appendBackwards_60, ite_le, n45, n54, true_or, or_true, false_or, or_false, false_and, and_false, kx_l, kx_r, go_s, gl_s, gi_s, gb_s2, gb_s3, gq_s, wt_nil, wt_int, wt_long, wt_ref, wt_null, nl_int, nl_long, nl_ref, nl_null, nl_none, rf_n, rf_s, rf_st, tl_s, tl_n, g0, gS, ex1, nb_b, nb_0, nb_1, nf_i, nf_l, nf_ra, nf_ro, nf_na, nf_no, nf_b0, nf_z0, t45_4, t45_5, true_and, and_true, List.set_cons_zero, List.set_cons_succ, List.length_cons, List.length_nil, rd_s, upw_s, ne_eq, not_false_eq_true, Nat.zero_add, Nat.add_zero, if_true, if_false, eq_self]
    repeat' first | with_reducible refine And.intro ?_ ?_ | omega
    exact hQ _ _ _ _ q1 (by omega) (by omega) (by omega) q4
  · simp only [eX1_appendBackwards_60, ite_le, n45, n54, true_or, or_true, false_or, or_false, false_and, and_false, kx_l, kx_r, go_s, gl_s, gi_s, gb_s2, gb_s3, gq_s, wt_nil, wt_int, wt_long, wt_ref, wt_null, nl_int, nl_long, nl_ref, nl_null, nl_none, rf_n, rf_s, rf_st, tl_s, tl_n, g0, gS, ex1, nb_b, nb_0, nb_1, nf_i, nf_l, nf_ra, nf_ro, nf_na, nf_no, nf_b0, nf_z0, t45_4, t45_5, true_and, and_true, List.set_cons_zero, List.set_cons_succ, List.length_cons, List.length_nil, rd_s, upw_s, ne_eq, not_false_eq_true, Nat.zero_add, Nat.add_zero, if_true, if_false, eq_self]
    repeat' first | with_reducible refine And.intro ?_ ?_ | omega
    exact hQ _ _ _ _ hN hp0 (by omega) (by omega) hT
set_option maxHeartbeats 4000000 in
theorem lX1_appendBackwards_5 {b p0 : Nat} {x : Int64} {c0 : Int} (hS : SG g) (hD : DG g w0) (hc0 : c0 ≤ 100) (hQ : ∀ (d' N' : Nat) (c' : Int32) (w' : Hw), CP N' → pC N' ≤ p0 → c0 ≤ c'.toInt → c'.toInt ≤ c0 + 20 → TS g w0 b d' N' c' w' → Q (.inl none) w') : ∀ (e : Nat) (d N k n : Nat) (y : Int64) (c i : Int32) (w : Hw), i.toInt + e = 19 → 0 ≤ i.toInt → CP N → pC N ≤ p0 → c0 ≤ c.toInt → c.toInt ≤ c0 + i.toInt → k + pC N ≤ 3 → n + pS N ≤ 246 → TS g w0 b d N c w →
    WP (MX1_appendBackwards g) Q (5, [some (.ref b), some (.long x), none, some (.long y), none, some (.int i)], [], w, k, n) := by
  intro e
  induction e with
  | zero =>
    intro d N k n y c i w h1 h2 hN hp0 h3 h4 hk hn hT
    have e19 : (19 : Int32).toInt = 19 := rfl
    have le : ((19 : Int32) ≤ i) = True := eq_true (Int32.le_iff_toInt_le.mpr (by omega))
    rw [eX1_appendBackwards_5]
    simp only [eX1_appendBackwards_7, ite_le, n45, n54, true_or, or_true, false_or, or_false, false_and, and_false, kx_l, kx_r, go_s, gl_s, gi_s, gb_s2, gb_s3, gq_s, wt_nil, wt_int, wt_long, wt_ref, wt_null, nl_int, nl_long, nl_ref, nl_null, nl_none, rf_n, rf_s, rf_st, tl_s, tl_n, g0, gS, ex1, nb_b, nb_0, nb_1, nf_i, nf_l, nf_ra, nf_ro, nf_na, nf_no, nf_b0, nf_z0, t45_4, t45_5, true_and, and_true, List.set_cons_zero, List.set_cons_succ, List.length_cons, List.length_nil, rd_s, upw_s, ne_eq, not_false_eq_true, Nat.zero_add, Nat.add_zero, if_true, if_false, eq_self, le]
    exact lX1_appendBackwards_47 hS hD hT hN hp0 h3 (by omega) (by omega) hk hn hQ
  | succ e ih =>
    intro d N k n y c i w h1 h2 hN hp0 h3 h4 hk hn hT
    obtain ⟨ml, f, hb, hd, hf, hc0', hc1, rb, rdd, n1, n2⟩ := hT.opn g
    have le : ((19 : Int32) ≤ i) = False := eq_false (fun h => by
      have := Int32.le_iff_toInt_le.mp h
      have e19 : (19 : Int32).toInt = 19 := rfl
      omega)
    have e1 := i32_p1 hc0' (by omega)
    have ei := i32_p1 h2 (by omega)
    obtain ⟨a, ha⟩ : ∃ a, (y - y / 10 * 10).toInt32 = a := ⟨_, rfl⟩
    obtain ⟨v, hv⟩ : ∃ v, (if 0 ≤ a then a else 0 - a) = v := ⟨_, rfl⟩
    obtain ⟨v0, v1⟩ := dig10 ha
    rw [hv] at v0 v1
    obtain ⟨k1, k2, k3, k4⟩ := kI (i := v) hN hb hd hc0' hc1 (by omega)
    have ek : k + kfI [.ref b, .int v] w ≤ 3 := by omega
    have es : n + sfI [.ref b, .int v] w ≤ 246 := by omega
    have ek2 : k ≤ 3 := by omega
    have es2 : n ≤ 246 := by omega
    rw [eX1_appendBackwards_5]
    simp only [eX1_appendBackwards_7, eX1_appendBackwards_12, eX1_appendBackwards_12N, eX1_appendBackwards_13, eX1_appendBackwards_18, eX1_appendBackwards_22, ite_le, n45, n54, true_or, or_true, false_or, or_false, false_and, and_false, kx_l, kx_r, go_s, gl_s, gi_s, gb_s2, gb_s3, gq_s, wt_nil, wt_int, wt_long, wt_ref, wt_null, nl_int, nl_long, nl_ref, nl_null, nl_none, rf_n, rf_s, rf_st, tl_s, tl_n, g0, gS, ex1, nb_b, nb_0, nb_1, nf_i, nf_l, nf_ra, nf_ro, nf_na, nf_no, nf_b0, nf_z0, t45_4, t45_5, true_and, and_true, List.set_cons_zero, List.set_cons_succ, List.length_cons, List.length_nil, rd_s, upw_s, ne_eq, not_false_eq_true, Nat.zero_add, Nat.add_zero, if_true, if_false, eq_self, le, t10l, ha, hv, rb, ek, es, ek2, es2]
    repeat' first | with_reducible refine And.intro ?_ ?_ | omega
    refine sapI hS hT hN (by omega) hD v0 v1 (fun d' N' w' q1 q2 q3 q4 => ?_)
    simp only [eX1_appendBackwards_25, eX1_appendBackwards_25R, eX1_appendBackwards_25N, eX1_appendBackwards_26, eX1_appendBackwards_31, eX1_appendBackwards_38, eX1_appendBackwards_41, ite_le, n45, n54, true_or, or_true, false_or, or_false, false_and, and_false, kx_l, kx_r, go_s, gl_s, gi_s, gb_s2, gb_s3, gq_s, wt_nil, wt_int, wt_long, wt_ref, wt_null, nl_int, nl_long, nl_ref, nl_null, nl_none, rf_n, rf_s, rf_st, tl_s, tl_n, g0, gS, ex1, nb_b, nb_0, nb_1, nf_i, nf_l, nf_ra, nf_ro, nf_na, nf_no, nf_b0, nf_z0, t45_4, t45_5, true_and, and_true, List.set_cons_zero, List.set_cons_succ, List.length_cons, List.length_nil, rd_s, upw_s, ne_eq, not_false_eq_true, Nat.zero_add, Nat.add_zero, if_true, if_false, eq_self, t10l]
    split
    · exact lX1_appendBackwards_47 hS hD q4 q1 (by omega) (by omega) (by omega) (by omega) (by omega) (by omega) hQ
    · exact ih _ _ _ _ _ _ _ _ (by omega) (by omega) q1 (by omega) (by omega) (by omega) (by omega) (by omega) q4
set_option maxHeartbeats 4000000 in
theorem sX1_appendBackwards {b d N p0 : Nat} {x : Int64} {c : Int32} {c0 : Int} (hS : SG g) (hD : DG g w0) (hT : TS g w0 b d N c w) (hN : CP N) (hp0 : pC N ≤ p0) (h0 : c0 = c.toInt) (h1 : c0 ≤ 100) (hQ : ∀ (d' N' : Nat) (c' : Int32) (w' : Hw), CP N' → pC N' ≤ p0 → c0 ≤ c'.toInt → c'.toInt ≤ c0 + 20 → TS g w0 b d' N' c' w' → Q (.inl none) w') : WP (MX1_appendBackwards g) Q (0, [some (.ref b), some (.long x), none, none, none, none], [], w, 0, 0) := by
  obtain ⟨ml, f, hb, hd, hf, hc0, hc1, rb, rdd, n1, n2⟩ := hT.opn g
  have z0 : (0 : Int32).toInt = 0 := rfl
  have pk : pC N ≤ 3 := by rcases hN with rfl | rfl | rfl | rfl <;> decide
  have ps : pS N ≤ 246 := by rcases hN with rfl | rfl | rfl | rfl <;> decide
  simp only [eX1_appendBackwards_0, ite_le, n45, n54, true_or, or_true, false_or, or_false, false_and, and_false, kx_l, kx_r, go_s, gl_s, gi_s, gb_s2, gb_s3, gq_s, wt_nil, wt_int, wt_long, wt_ref, wt_null, nl_int, nl_long, nl_ref, nl_null, nl_none, rf_n, rf_s, rf_st, tl_s, tl_n, g0, gS, ex1, nb_b, nb_0, nb_1, nf_i, nf_l, nf_ra, nf_ro, nf_na, nf_no, nf_b0, nf_z0, t45_4, t45_5, true_and, and_true, List.set_cons_zero, List.set_cons_succ, List.length_cons, List.length_nil, rd_s, upw_s, ne_eq, not_false_eq_true, Nat.zero_add, Nat.add_zero, if_true, if_false, eq_self]
  exact lX1_appendBackwards_5 hS hD h1 hQ 19 _ _ _ _ _ _ _ _ (by decide) (by decide) hN hp0 (by omega) (by omega) (by omega) (by omega) hT
end
end
/-! 68.text9.lean.txt -/
section
section
variable {g : RO} {Q : Ot → Hw → Prop} {w0 w : Hw}
variable {x nA cA lA : Nat} {kn : Int32}
set_option maxHeartbeats 4000000 in
theorem sX1_numberText {a0 : Int32} (hC : CC g w0 x nA cA lA kn w) (hS : SG g) (hD : DG g w) (hXo : Q (.inr "java/lang/IndexOutOfBoundsException") w) (hQ : ∀ q w', ext g w w' → Q (.inl (some (.ref q))) w') : WP (MX1_numberText g) Q (0, [some (.ref x), some (.int a0), none], [], w, 0, 0) := by
  obtain ⟨n, rf, md, f, gc, gl, hx, hn, hc, hl, hgc, hgl, hn0, hn1, rx, rn, rc, rl, ⟨d1, d2, d3, d4, d5, d6⟩, ⟨d7, d8, d9, d10, d11, d12⟩⟩ := hC.1.opn g
  simp only [eX1_numberText_0, ite_le, n45, n54, true_or, or_true, false_or, or_false, false_and, and_false, kx_l, kx_r, go_s, gl_s, gi_s, gb_s2, gb_s3, gq_s, wt_nil, wt_int, wt_long, wt_ref, wt_null, nl_int, nl_long, nl_ref, nl_null, nl_none, rf_n, rf_s, rf_st, tl_s, tl_n, g0, gS, ex1, nb_b, nb_0, nb_1, nf_i, nf_l, nf_ra, nf_ro, nf_na, nf_no, nf_b0, nf_z0, t45_4, t45_5, true_and, and_true, List.set_cons_zero, List.set_cons_succ, List.length_cons, List.length_nil, rd_s, upw_s, ne_eq, not_false_eq_true, Nat.zero_add, Nat.add_zero, if_true, if_false, eq_self]
  repeat' first | with_reducible refine And.intro ?_ ?_ | omega
  refine sX1_needNumber hXo (fun k0 k1 => ?_)
  have av : vp_in a0 8 := vpi8 k0 k1
  simp only [eX1_numberText_4, ite_le, n45, n54, true_or, or_true, false_or, or_false, false_and, and_false, kx_l, kx_r, go_s, gl_s, gi_s, gb_s2, gb_s3, gq_s, wt_nil, wt_int, wt_long, wt_ref, wt_null, nl_int, nl_long, nl_ref, nl_null, nl_none, rf_n, rf_s, rf_st, tl_s, tl_n, g0, gS, ex1, nb_b, nb_0, nb_1, nf_i, nf_l, nf_ra, nf_ro, nf_na, nf_no, nf_b0, nf_z0, t45_4, t45_5, true_and, and_true, List.set_cons_zero, List.set_cons_succ, List.length_cons, List.length_nil, rd_s, upw_s, ne_eq, not_false_eq_true, Nat.zero_add, Nat.add_zero, if_true, if_false, eq_self]
  repeat' first | with_reducible refine And.intro ?_ ?_ | omega
  intro b hq
  have hqn := rd_none hq
  simp only [eX1_numberText_7, eX1_numberText_7R, eX1_numberText_8, ite_le, n45, n54, true_or, or_true, false_or, or_false, false_and, and_false, kx_l, kx_r, go_s, gl_s, gi_s, gb_s2, gb_s3, gq_s, wt_nil, wt_int, wt_long, wt_ref, wt_null, nl_int, nl_long, nl_ref, nl_null, nl_none, rf_n, rf_s, rf_st, tl_s, tl_n, g0, gS, ex1, nb_b, nb_0, nb_1, nf_i, nf_l, nf_ra, nf_ro, nf_na, nf_no, nf_b0, nf_z0, t45_4, t45_5, true_and, and_true, List.set_cons_zero, List.set_cons_succ, List.length_cons, List.length_nil, rd_s, upw_s, ne_eq, not_false_eq_true, Nat.zero_add, Nat.add_zero, if_true, if_false, eq_self]
  repeat' first | with_reducible refine And.intro ?_ ?_ | omega
  refine sJ4_init_da8c8 (w0 := w) hS (ext_up2 ext.rf hq) (upw_s _ _ _) hqn (rd_ro hq) (fun d w1 hT => ?_)
  have rx1 := rd_e (g := g) (hT.1.1 _ _ hx)
  have rn1 := rd_e (g := g) (hT.1.1 _ _ hn)
  simp only [eX1_numberText_11, eX1_numberText_11N, eX1_numberText_12, eX1_numberText_12N, eX1_numberText_13, eX1_numberText_13N, eX1_numberText_14, eX1_numberText_17, eX1_numberText_19R, eX1_numberText_19N, ite_le, n45, n54, true_or, or_true, false_or, or_false, false_and, and_false, kx_l, kx_r, go_s, gl_s, gi_s, gb_s2, gb_s3, gq_s, wt_nil, wt_int, wt_long, wt_ref, wt_null, nl_int, nl_long, nl_ref, nl_null, nl_none, rf_n, rf_s, rf_st, tl_s, tl_n, g0, gS, ex1, nb_b, nb_0, nb_1, nf_i, nf_l, nf_ra, nf_ro, nf_na, nf_no, nf_b0, nf_z0, t45_4, t45_5, true_and, and_true, List.set_cons_zero, List.set_cons_succ, List.length_cons, List.length_nil, rd_s, upw_s, ne_eq, not_false_eq_true, Nat.zero_add, Nat.add_zero, if_true, if_false, eq_self, rx1, rn1, av]
  repeat' first | with_reducible refine And.intro ?_ ?_ | omega
  refine sX1_appendBackwards hS hD hT (Or.inl rfl) (Nat.le_refl _) rfl (by decide) (fun d' N' c' w2 q1 _ q2 q3 hT2 => ?_)
  have z0 : (0 : Int32).toInt = 0 := rfl
  obtain ⟨_, _, hb2, _, _, _, _, rb2, _⟩ := hT2.opn g
  simp only [eX1_numberText_22, eX1_numberText_22N, eX1_numberText_23, ite_le, n45, n54, true_or, or_true, false_or, or_false, false_and, and_false, kx_l, kx_r, go_s, gl_s, gi_s, gb_s2, gb_s3, gq_s, wt_nil, wt_int, wt_long, wt_ref, wt_null, nl_int, nl_long, nl_ref, nl_null, nl_none, rf_n, rf_s, rf_st, tl_s, tl_n, g0, gS, ex1, nb_b, nb_0, nb_1, nf_i, nf_l, nf_ra, nf_ro, nf_na, nf_no, nf_b0, nf_z0, t45_4, t45_5, true_and, and_true, List.set_cons_zero, List.set_cons_succ, List.length_cons, List.length_nil, rd_s, upw_s, ne_eq, not_false_eq_true, Nat.zero_add, Nat.add_zero, if_true, if_false, eq_self, rb2]
  repeat' first | with_reducible refine And.intro ?_ ?_ | omega
  refine sJ4_reverse_43fcb hS hT2 (Nat.le_trans q1.le (by decide)) (fun w3 hT3 => ?_)
  obtain ⟨_, _, hb3, _, _, _, _, rb3, _⟩ := hT3.opn g
  simp only [eX1_numberText_26, ite_le, n45, n54, true_or, or_true, false_or, or_false, false_and, and_false, kx_l, kx_r, go_s, gl_s, gi_s, gb_s2, gb_s3, gq_s, wt_nil, wt_int, wt_long, wt_ref, wt_null, nl_int, nl_long, nl_ref, nl_null, nl_none, rf_n, rf_s, rf_st, tl_s, tl_n, g0, gS, ex1, nb_b, nb_0, nb_1, nf_i, nf_l, nf_ra, nf_ro, nf_na, nf_no, nf_b0, nf_z0, t45_4, t45_5, true_and, and_true, List.set_cons_zero, List.set_cons_succ, List.length_cons, List.length_nil, rd_s, upw_s, ne_eq, not_false_eq_true, Nat.zero_add, Nat.add_zero, if_true, if_false, eq_self, rb3]
  repeat' first | with_reducible refine And.intro ?_ ?_ | omega
  refine sJ4_toString_0e30d hS hT3 (Nat.le_trans q1.le (by decide)) (by omega) (fun q w4 z => ?_)
  simp only [eX1_numberText_29, eX1_numberText_29N, ite_le, n45, n54, true_or, or_true, false_or, or_false, false_and, and_false, kx_l, kx_r, go_s, gl_s, gi_s, gb_s2, gb_s3, gq_s, wt_nil, wt_int, wt_long, wt_ref, wt_null, nl_int, nl_long, nl_ref, nl_null, nl_none, rf_n, rf_s, rf_st, tl_s, tl_n, g0, gS, ex1, nb_b, nb_0, nb_1, nf_i, nf_l, nf_ra, nf_ro, nf_na, nf_no, nf_b0, nf_z0, t45_4, t45_5, true_and, and_true, List.set_cons_zero, List.set_cons_succ, List.length_cons, List.length_nil, rd_s, upw_s, ne_eq, not_false_eq_true, Nat.zero_add, Nat.add_zero, if_true, if_false, eq_self]
  repeat' first | with_reducible refine And.intro ?_ ?_ | omega
  exact hQ _ _ z
set_option maxHeartbeats 4000000 in
theorem lX1_cardText_29 {r b : Nat} {a0 : Int32} (hS : SG g) (hD : DG g w) (hR : isR w r) (hQ : ∀ q w', ext g w w' → Q (.inl (some (.ref q))) w') : ∀ (e : Nat) (d N k n : Nat) (c i : Int32) (w1 : Hw), i.toInt + 1 ≤ e → -1 ≤ i.toInt → i.toInt ≤ 3 → CP N → k + 3 * (i.toInt + 1) + ((pC N - 1 : Nat) : Int) ≤ 17 → n + 388 * (i.toInt + 1) ≤ 1578 → n ≤ 1436 → c.toInt ≤ 21 * (3 - i.toInt) → c.toInt ≤ 83 → TS g w b d N c w1 →
    WP (MX1_cardText g) Q (29, [some (.ref x), some (.int a0), some (.ref r), some (.ref b), some (.int i)], [], w1, k, n) := by
  have fin : ∀ (d N k n : Nat) (c i : Int32) (w1 : Hw), CP N → k ≤ 17 → n ≤ 1436 → c.toInt ≤ 83 → TS g w b d N c w1 → WP (MX1_cardText g) Q (62, [some (.ref x), some (.int a0), some (.ref r), some (.ref b), some (.int i)], [], w1, k, n) := by
    intro d N k n c i w1 q1 hk hn hc hT
    obtain ⟨_, _, hb2, _, _, _, _, rb2, _⟩ := hT.opn g
    simp only [eX1_cardText_62, eX1_cardText_62N, eX1_cardText_63, ite_le, n45, n54, true_or, or_true, false_or, or_false, false_and, and_false, kx_l, kx_r, go_s, gl_s, gi_s, gb_s2, gb_s3, gq_s, wt_nil, wt_int, wt_long, wt_ref, wt_null, nl_int, nl_long, nl_ref, nl_null, nl_none, rf_n, rf_s, rf_st, tl_s, tl_n, g0, gS, ex1, nb_b, nb_0, nb_1, nf_i, nf_l, nf_ra, nf_ro, nf_na, nf_no, nf_b0, nf_z0, t45_4, t45_5, true_and, and_true, List.set_cons_zero, List.set_cons_succ, List.length_cons, List.length_nil, rd_s, upw_s, ne_eq, not_false_eq_true, Nat.zero_add, Nat.add_zero, if_true, if_false, eq_self, rb2]
    repeat' first | with_reducible refine And.intro ?_ ?_ | omega
    refine sJ4_reverse_43fcb hS hT (Nat.le_trans q1.le (by decide)) (fun w3 hT3 => ?_)
    obtain ⟨_, _, hb3, _, _, _, _, rb3, _⟩ := hT3.opn g
    simp only [eX1_cardText_66, ite_le, n45, n54, true_or, or_true, false_or, or_false, false_and, and_false, kx_l, kx_r, go_s, gl_s, gi_s, gb_s2, gb_s3, gq_s, wt_nil, wt_int, wt_long, wt_ref, wt_null, nl_int, nl_long, nl_ref, nl_null, nl_none, rf_n, rf_s, rf_st, tl_s, tl_n, g0, gS, ex1, nb_b, nb_0, nb_1, nf_i, nf_l, nf_ra, nf_ro, nf_na, nf_no, nf_b0, nf_z0, t45_4, t45_5, true_and, and_true, List.set_cons_zero, List.set_cons_succ, List.length_cons, List.length_nil, rd_s, upw_s, ne_eq, not_false_eq_true, Nat.zero_add, Nat.add_zero, if_true, if_false, eq_self, rb3]
    repeat' first | with_reducible refine And.intro ?_ ?_ | omega
    refine sJ4_toString_0e30d hS hT3 (Nat.le_trans q1.le (by decide)) (by omega) (fun q w4 z => ?_)
    simp only [eX1_cardText_69, eX1_cardText_69N, ite_le, n45, n54, true_or, or_true, false_or, or_false, false_and, and_false, kx_l, kx_r, go_s, gl_s, gi_s, gb_s2, gb_s3, gq_s, wt_nil, wt_int, wt_long, wt_ref, wt_null, nl_int, nl_long, nl_ref, nl_null, nl_none, rf_n, rf_s, rf_st, tl_s, tl_n, g0, gS, ex1, nb_b, nb_0, nb_1, nf_i, nf_l, nf_ra, nf_ro, nf_na, nf_no, nf_b0, nf_z0, t45_4, t45_5, true_and, and_true, List.set_cons_zero, List.set_cons_succ, List.length_cons, List.length_nil, rd_s, upw_s, ne_eq, not_false_eq_true, Nat.zero_add, Nat.add_zero, if_true, if_false, eq_self]
    repeat' first | with_reducible refine And.intro ?_ ?_ | omega
    exact hQ _ _ z
  intro e
  induction e with
  | zero =>
    intro d N k n c i w1 h1 h2 h3 hN hk hn hn2 hc hc2 hT
    have t : (i < 0) = True := i32_t0 (by omega)
    rw [eX1_cardText_29]
    simp only [eX1_cardText_31, ite_le, n45, n54, true_or, or_true, false_or, or_false, false_and, and_false, kx_l, kx_r, go_s, gl_s, gi_s, gb_s2, gb_s3, gq_s, wt_nil, wt_int, wt_long, wt_ref, wt_null, nl_int, nl_long, nl_ref, nl_null, nl_none, rf_n, rf_s, rf_st, tl_s, tl_n, g0, gS, ex1, nb_b, nb_0, nb_1, nf_i, nf_l, nf_ra, nf_ro, nf_na, nf_no, nf_b0, nf_z0, t45_4, t45_5, true_and, and_true, List.set_cons_zero, List.set_cons_succ, List.length_cons, List.length_nil, rd_s, upw_s, ne_eq, not_false_eq_true, Nat.zero_add, Nat.add_zero, if_true, if_false, eq_self, t]
    exact fin _ _ _ _ _ _ _ hN (by omega) hn2 hc2 hT
  | succ e ih =>
    intro d N k n c i w1 h1 h2 h3 hN hk hn hn2 hc hc2 hT
    rw [eX1_cardText_29]
    simp only [eX1_cardText_31, ite_le, n45, n54, true_or, or_true, false_or, or_false, false_and, and_false, kx_l, kx_r, go_s, gl_s, gi_s, gb_s2, gb_s3, gq_s, wt_nil, wt_int, wt_long, wt_ref, wt_null, nl_int, nl_long, nl_ref, nl_null, nl_none, rf_n, rf_s, rf_st, tl_s, tl_n, g0, gS, ex1, nb_b, nb_0, nb_1, nf_i, nf_l, nf_ra, nf_ro, nf_na, nf_no, nf_b0, nf_z0, t45_4, t45_5, true_and, and_true, List.set_cons_zero, List.set_cons_succ, List.length_cons, List.length_nil, rd_s, upw_s, ne_eq, not_false_eq_true, Nat.zero_add, Nat.add_zero, if_true, if_false, eq_self]
    split
    · exact fin _ _ _ _ _ _ _ hN (by omega) hn2 hc2 hT
    · next hi =>
      have hi := i32_0 hi
      have rR := hR.ext hT.1
      obtain ⟨_, _, hb1, hd1, _, hc0, hc1, rb1, _⟩ := hT.opn g
      simp only [eX1_cardText_34, eX1_cardText_34N, eX1_cardText_35, eX1_cardText_35N, eX1_cardText_36, ite_le, n45, n54, true_or, or_true, false_or, or_false, false_and, and_false, kx_l, kx_r, go_s, gl_s, gi_s, gb_s2, gb_s3, gq_s, wt_nil, wt_int, wt_long, wt_ref, wt_null, nl_int, nl_long, nl_ref, nl_null, nl_none, rf_n, rf_s, rf_st, tl_s, tl_n, g0, gS, ex1, nb_b, nb_0, nb_1, nf_i, nf_l, nf_ra, nf_ro, nf_na, nf_no, nf_b0, nf_z0, t45_4, t45_5, true_and, and_true, List.set_cons_zero, List.set_cons_succ, List.length_cons, List.length_nil, rd_s, upw_s, ne_eq, not_false_eq_true, Nat.zero_add, Nat.add_zero, if_true, if_false, eq_self]
      refine ⟨go_R rR (fun _ _ _ _ => trivial), ?_⟩
      repeat' first | with_reducible refine And.intro ?_ ?_ | omega
      refine sX0_endAt rR (fun v => ?_)
      simp only [eX1_cardText_41R, eX1_cardText_41N, ite_le, n45, n54, true_or, or_true, false_or, or_false, false_and, and_false, kx_l, kx_r, go_s, gl_s, gi_s, gb_s2, gb_s3, gq_s, wt_nil, wt_int, wt_long, wt_ref, wt_null, nl_int, nl_long, nl_ref, nl_null, nl_none, rf_n, rf_s, rf_st, tl_s, tl_n, g0, gS, ex1, nb_b, nb_0, nb_1, nf_i, nf_l, nf_ra, nf_ro, nf_na, nf_no, nf_b0, nf_z0, t45_4, t45_5, true_and, and_true, List.set_cons_zero, List.set_cons_succ, List.length_cons, List.length_nil, rd_s, upw_s, ne_eq, not_false_eq_true, Nat.zero_add, Nat.add_zero, if_true, if_false, eq_self]
      repeat' first | with_reducible refine And.intro ?_ ?_ | omega
      refine sX1_appendBackwards (p0 := pC N) hS hD hT hN (Nat.le_refl _) rfl (by omega) (fun d' N' c' w2 q1 q0 q2 q3 hT2 => ?_)
      obtain ⟨_, _, hb2, hd2, _, hc20, hc21, rb2, _⟩ := hT2.opn g
      obtain ⟨i', hi'⟩ : ∃ i', i + -1 = i' := ⟨_, rfl⟩
      have ei : i'.toInt = i.toInt - 1 := by rw [← hi']; exact i32_m1 (by omega)
      simp only [eX1_cardText_44, ite_le, n45, n54, true_or, or_true, false_or, or_false, false_and, and_false, kx_l, kx_r, go_s, gl_s, gi_s, gb_s2, gb_s3, gq_s, wt_nil, wt_int, wt_long, wt_ref, wt_null, nl_int, nl_long, nl_ref, nl_null, nl_none, rf_n, rf_s, rf_st, tl_s, tl_n, g0, gS, ex1, nb_b, nb_0, nb_1, nf_i, nf_l, nf_ra, nf_ro, nf_na, nf_no, nf_b0, nf_z0, t45_4, t45_5, true_and, and_true, List.set_cons_zero, List.set_cons_succ, List.length_cons, List.length_nil, rd_s, upw_s, ne_eq, not_false_eq_true, Nat.zero_add, Nat.add_zero, if_true, if_false, eq_self]
      split
      · next hz =>
        have hz : 0 < i.toInt := i32_lt hz
        obtain ⟨k1, k2, k3, k4⟩ := kI (i := 32) q1 hb2 hd2 hc20 hc21 (by omega)
        have kk : kfI [.ref b, .int 32] w2 = 1 → 2 ≤ pC N' := by
          intro z
          rcases q1 with rfl | rfl | rfl | rfl
          · decide
          · decide
          · rw [if_neg (by omega)] at k3
            omega
          · rw [if_neg (by omega)] at k3
            omega
        have k5 : kfI [.ref b, .int 32] w2 ≤ 1 := by
          rw [k3]
          split <;> omega
        have k6 : sfI [.ref b, .int 32] w2 ≤ 142 := by
          rw [k4]
          split
          · rcases q1 with rfl | rfl | rfl | rfl <;> omega
          · omega
        have k7 : k + 3 + kfI [.ref b, .int 32] w2 ≤ 19 := by omega
        have k8 : n + 246 + sfI [.ref b, .int 32] w2 ≤ 1530 := by omega
        simp only [eX1_cardText_49, eX1_cardText_49N, eX1_cardText_50, ite_le, n45, n54, true_or, or_true, false_or, or_false, false_and, and_false, kx_l, kx_r, go_s, gl_s, gi_s, gb_s2, gb_s3, gq_s, wt_nil, wt_int, wt_long, wt_ref, wt_null, nl_int, nl_long, nl_ref, nl_null, nl_none, rf_n, rf_s, rf_st, tl_s, tl_n, g0, gS, ex1, nb_b, nb_0, nb_1, nf_i, nf_l, nf_ra, nf_ro, nf_na, nf_no, nf_b0, nf_z0, t45_4, t45_5, true_and, and_true, List.set_cons_zero, List.set_cons_succ, List.length_cons, List.length_nil, rd_s, upw_s, ne_eq, not_false_eq_true, Nat.zero_add, Nat.add_zero, if_true, if_false, eq_self, rb2, k7, k8]
        repeat' first | with_reducible refine And.intro ?_ ?_ | omega
        refine sapC hS hT2 q1 (by omega) h32 (fun d3 N3 w3 p1 p2 p3 hT3 => ?_)
        have e1 := i32_p1 hc20 (by omega)
        obtain ⟨c3, hc3⟩ : ∃ c3, c' + 1 = c3 := ⟨_, rfl⟩
        rw [hc3] at e1 hT3
        simp only [eX1_cardText_55, eX1_cardText_55R, eX1_cardText_55N, eX1_cardText_56, ite_le, n45, n54, true_or, or_true, false_or, or_false, false_and, and_false, kx_l, kx_r, go_s, gl_s, gi_s, gb_s2, gb_s3, gq_s, wt_nil, wt_int, wt_long, wt_ref, wt_null, nl_int, nl_long, nl_ref, nl_null, nl_none, rf_n, rf_s, rf_st, tl_s, tl_n, g0, gS, ex1, nb_b, nb_0, nb_1, nf_i, nf_l, nf_ra, nf_ro, nf_na, nf_no, nf_b0, nf_z0, t45_4, t45_5, true_and, and_true, List.set_cons_zero, List.set_cons_succ, List.length_cons, List.length_nil, rd_s, upw_s, ne_eq, not_false_eq_true, Nat.zero_add, Nat.add_zero, if_true, if_false, eq_self, hi']
        exact ih _ _ _ _ _ _ _ (by omega) (by omega) (by omega) p1 (by omega) (by omega) (by omega) (by omega) (by omega) hT3
      · next hz =>
        have hz := i32_nlt hz
        have z0 : (0 : Int32).toInt = 0 := rfl
        simp only [eX1_cardText_56, ite_le, n45, n54, true_or, or_true, false_or, or_false, false_and, and_false, kx_l, kx_r, go_s, gl_s, gi_s, gb_s2, gb_s3, gq_s, wt_nil, wt_int, wt_long, wt_ref, wt_null, nl_int, nl_long, nl_ref, nl_null, nl_none, rf_n, rf_s, rf_st, tl_s, tl_n, g0, gS, ex1, nb_b, nb_0, nb_1, nf_i, nf_l, nf_ra, nf_ro, nf_na, nf_no, nf_b0, nf_z0, t45_4, t45_5, true_and, and_true, List.set_cons_zero, List.set_cons_succ, List.length_cons, List.length_nil, rd_s, upw_s, ne_eq, not_false_eq_true, Nat.zero_add, Nat.add_zero, if_true, if_false, eq_self, hi']
        exact ih _ _ _ _ _ _ _ (by omega) (by omega) (by omega) q1 (by omega) (by omega) (by omega) (by omega) (by omega) hT2
set_option maxHeartbeats 4000000 in
theorem sX1_cardText {a0 : Int32} (hC : CC g w0 x nA cA lA kn w) (hS : SG g) (hD : DG g w) (hG : ∃ s, g.1 20 = .ref s) (hXo : Q (.inr "java/lang/IndexOutOfBoundsException") w) (hQ : ∀ q w', ext g w w' → Q (.inl (some (.ref q))) w') : WP (MX1_cardText g) Q (0, [some (.ref x), some (.int a0), none, none, none], [], w, 0, 0) := by
  obtain ⟨n, rf, md, f, gc, gl, hx, hn, hc, hl, hgc, hgl, hn0, hn1, rx, rn, rc, rl, ⟨d1, d2, d3, d4, d5, d6⟩, ⟨d7, d8, d9, d10, d11, d12⟩⟩ := hC.1.opn g
  obtain ⟨s, hs⟩ := hG
  simp only [eX1_cardText_0, ite_le, n45, n54, true_or, or_true, false_or, or_false, false_and, and_false, kx_l, kx_r, go_s, gl_s, gi_s, gb_s2, gb_s3, gq_s, wt_nil, wt_int, wt_long, wt_ref, wt_null, nl_int, nl_long, nl_ref, nl_null, nl_none, rf_n, rf_s, rf_st, tl_s, tl_n, g0, gS, ex1, nb_b, nb_0, nb_1, nf_i, nf_l, nf_ra, nf_ro, nf_na, nf_no, nf_b0, nf_z0, t45_4, t45_5, true_and, and_true, List.set_cons_zero, List.set_cons_succ, List.length_cons, List.length_nil, rd_s, upw_s, ne_eq, not_false_eq_true, Nat.zero_add, Nat.add_zero, if_true, if_false, eq_self]
  repeat' first | with_reducible refine And.intro ?_ ?_ | omega
  refine sX1_needCard hXo (fun k0 k1 => ?_)
  have av : vp_in a0 6 := vpi6 k0 k1
  simp only [eX1_cardText_4, eX1_cardText_4N, eX1_cardText_5, eX1_cardText_8, ite_le, n45, n54, true_or, or_true, false_or, or_false, false_and, and_false, kx_l, kx_r, go_s, gl_s, gi_s, gb_s2, gb_s3, gq_s, wt_nil, wt_int, wt_long, wt_ref, wt_null, nl_int, nl_long, nl_ref, nl_null, nl_none, rf_n, rf_s, rf_st, tl_s, tl_n, g0, gS, ex1, nb_b, nb_0, nb_1, nf_i, nf_l, nf_ra, nf_ro, nf_na, nf_no, nf_b0, nf_z0, t45_4, t45_5, true_and, and_true, List.set_cons_zero, List.set_cons_succ, List.length_cons, List.length_nil, rd_s, upw_s, ne_eq, not_false_eq_true, Nat.zero_add, Nat.add_zero, if_true, if_false, eq_self, rx, rc, av]
  repeat' first | with_reducible refine And.intro ?_ ?_ | omega
  · intro hr
    simp only [eX1_cardText_10, eX1_cardText_10N, eX1_cardText_11, eX1_cardText_11N, eX1_cardText_12R, eX1_cardText_12N, eX1_cardText_15, eX1_cardText_17, eX1_cardText_17N, ite_le, n45, n54, true_or, or_true, false_or, or_false, false_and, and_false, kx_l, kx_r, go_s, gl_s, gi_s, gb_s2, gb_s3, gq_s, wt_nil, wt_int, wt_long, wt_ref, wt_null, nl_int, nl_long, nl_ref, nl_null, nl_none, rf_n, rf_s, rf_st, tl_s, tl_n, g0, gS, ex1, nb_b, nb_0, nb_1, nf_i, nf_l, nf_ra, nf_ro, nf_na, nf_no, nf_b0, nf_z0, t45_4, t45_5, true_and, and_true, List.set_cons_zero, List.set_cons_succ, List.length_cons, List.length_nil, rd_s, upw_s, ne_eq, not_false_eq_true, Nat.zero_add, Nat.add_zero, if_true, if_false, eq_self, hs, hr]
    repeat' first | with_reducible refine And.intro ?_ ?_ | omega
    exact hQ _ _ ext.rf
  · intro r hr
    have hR := hgc _ _ hr
    simp only [eX1_cardText_10, eX1_cardText_10N, eX1_cardText_11, eX1_cardText_11N, eX1_cardText_12R, eX1_cardText_12N, eX1_cardText_15, eX1_cardText_17, eX1_cardText_17N, eX1_cardText_18, ite_le, n45, n54, true_or, or_true, false_or, or_false, false_and, and_false, kx_l, kx_r, go_s, gl_s, gi_s, gb_s2, gb_s3, gq_s, wt_nil, wt_int, wt_long, wt_ref, wt_null, nl_int, nl_long, nl_ref, nl_null, nl_none, rf_n, rf_s, rf_st, tl_s, tl_n, g0, gS, ex1, nb_b, nb_0, nb_1, nf_i, nf_l, nf_ra, nf_ro, nf_na, nf_no, nf_b0, nf_z0, t45_4, t45_5, true_and, and_true, List.set_cons_zero, List.set_cons_succ, List.length_cons, List.length_nil, rd_s, upw_s, ne_eq, not_false_eq_true, Nat.zero_add, Nat.add_zero, if_true, if_false, eq_self, hr]
    repeat' first | with_reducible refine And.intro ?_ ?_ | omega
    intro b hq
    have hqn := rd_none hq
    simp only [eX1_cardText_21, eX1_cardText_21R, eX1_cardText_22, ite_le, n45, n54, true_or, or_true, false_or, or_false, false_and, and_false, kx_l, kx_r, go_s, gl_s, gi_s, gb_s2, gb_s3, gq_s, wt_nil, wt_int, wt_long, wt_ref, wt_null, nl_int, nl_long, nl_ref, nl_null, nl_none, rf_n, rf_s, rf_st, tl_s, tl_n, g0, gS, ex1, nb_b, nb_0, nb_1, nf_i, nf_l, nf_ra, nf_ro, nf_na, nf_no, nf_b0, nf_z0, t45_4, t45_5, true_and, and_true, List.set_cons_zero, List.set_cons_succ, List.length_cons, List.length_nil, rd_s, upw_s, ne_eq, not_false_eq_true, Nat.zero_add, Nat.add_zero, if_true, if_false, eq_self]
    repeat' first | with_reducible refine And.intro ?_ ?_ | omega
    refine sJ4_init_da8c8 (w0 := w) hS (ext_up2 ext.rf hq) (upw_s _ _ _) hqn (rd_ro hq) (fun d w1 hT => ?_)
    simp only [eX1_cardText_25, eX1_cardText_25N, eX1_cardText_26, ite_le, n45, n54, true_or, or_true, false_or, or_false, false_and, and_false, kx_l, kx_r, go_s, gl_s, gi_s, gb_s2, gb_s3, gq_s, wt_nil, wt_int, wt_long, wt_ref, wt_null, nl_int, nl_long, nl_ref, nl_null, nl_none, rf_n, rf_s, rf_st, tl_s, tl_n, g0, gS, ex1, nb_b, nb_0, nb_1, nf_i, nf_l, nf_ra, nf_ro, nf_na, nf_no, nf_b0, nf_z0, t45_4, t45_5, true_and, and_true, List.set_cons_zero, List.set_cons_succ, List.length_cons, List.length_nil, rd_s, upw_s, ne_eq, not_false_eq_true, Nat.zero_add, Nat.add_zero, if_true, if_false, eq_self]
    exact lX1_cardText_29 hS hD hR hQ 4 _ _ _ _ _ _ _ (by decide) (by decide) (by decide) (Or.inl rfl) (by decide) (by decide) (by decide) (by decide) (by decide) hT
end
end
