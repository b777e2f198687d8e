/-! 66.class10.lean.txt -/
section
abbrev dX1_copy_0_T : List (Nat × Instr × Nat) := [(0, .iload_n 1, 1), (1, .invokestatic 35, 3), (4, .iload_n 2, 1), (5, .invokestatic 35, 3), (8, .aload_n 0, 1), (9, .iload_n 1, 1), (10, .aload_n 0, 1), (11, .getfield 9, 3), (14, .iload_n 2, 1), (15, .laload, 1), (16, .invokevirtual 56, 3), (19, .ireturn, 1)]
theorem dX1_copy_0_D : dtc cX1_copy dX1_copy_0_T = true := by decide +kernel
def MX1_copy (g : RO) : MT := ((RX1, cX1_copy, 3, 7, 2, 12, false, some .int), [(9, 5, 0)], [], [], [], [], 0, [(35, 0, 1, 0, 6, (fun _ _ => 1), (fun _ _ => 6), yX1_needNumber, spOf (MX1_needNumber g)), (56, 2, 3, 5, 2, (fun _ _ => 0), (fun _ _ => 0), yX1_putNumber, spOf (MX1_putNumber g))], [], [], 0, [], [], g)
section
variable {g : RO} {Q : Ot → Hw → Prop} {st : List Value} {w : Hw} {k n p q : Nat} {a b : Int32} {x y : Int64} {u v : Value} {l0 l1 l2 : Option Value}
theorem eX1_copy_0 : WP (MX1_copy g) Q (0, [l0, some (.int a), l2], st, w, k, n) = WP (MX1_copy g) Q (1, [l0, some (.int a), l2], .int a :: st, w, k, n) := iln_e rfl (dt_q dX1_copy_0_D 0 rfl) rfl
theorem eX1_copy_1 {z0 : Int32} : WP (MX1_copy g) Q (1, [l0, l1, l2], .int z0 :: st, w, k, n) = (wt st ≤ 8 ∧ k + 1 ≤ 2 ∧ n + 6 ≤ 12 ∧ WP (MX1_needNumber g) (kx (fun v w' => WP (MX1_copy g) Q (4, [l0, l1, l2], v.toList ++ st, w', k + 1, n + 6)) (fun E w' => Q (.inr E) w')) (0, [some (.int z0)], [], w, 0, 0)) := csS0 (M := (MX1_copy g)) (mc := (fun _ _ => 1)) (ms := (fun _ _ => 6)) (As := [.int z0]) (rest := st) (MX1_needNumber g) rfl rfl rfl (dt_q dX1_copy_0_D 1 rfl) rfl rfl rfl rfl rfl rfl rfl
theorem eX1_copy_4 : WP (MX1_copy g) Q (4, [l0, l1, some (.int a)], st, w, k, n) = WP (MX1_copy g) Q (5, [l0, l1, some (.int a)], .int a :: st, w, k, n) := iln_e rfl (dt_q dX1_copy_0_D 2 rfl) rfl
theorem eX1_copy_5 {z0 : Int32} : WP (MX1_copy g) Q (5, [l0, l1, l2], .int z0 :: st, w, k, n) = (wt st ≤ 8 ∧ k + 1 ≤ 2 ∧ n + 6 ≤ 12 ∧ WP (MX1_needNumber g) (kx (fun v w' => WP (MX1_copy g) Q (8, [l0, l1, l2], v.toList ++ st, w', k + 1, n + 6)) (fun E w' => Q (.inr E) w')) (0, [some (.int z0)], [], w, 0, 0)) := csS0 (M := (MX1_copy g)) (mc := (fun _ _ => 1)) (ms := (fun _ _ => 6)) (As := [.int z0]) (rest := st) (MX1_needNumber g) rfl rfl rfl (dt_q dX1_copy_0_D 3 rfl) rfl rfl rfl rfl rfl rfl rfl
theorem eX1_copy_8 : WP (MX1_copy g) Q (8, [some (.ref p), l1, l2], st, w, k, n) = WP (MX1_copy g) Q (9, [some (.ref p), l1, l2], .ref p :: st, w, k, n) := alnR_e rfl (dt_q dX1_copy_0_D 4 rfl) rfl
theorem eX1_copy_8N : WP (MX1_copy g) Q (8, [some .null, l1, l2], st, w, k, n) = WP (MX1_copy g) Q (9, [some .null, l1, l2], .null :: st, w, k, n) := alnN_e rfl (dt_q dX1_copy_0_D 4 rfl) rfl
theorem eX1_copy_9 : WP (MX1_copy g) Q (9, [l0, some (.int a), l2], st, w, k, n) = WP (MX1_copy g) Q (10, [l0, some (.int a), l2], .int a :: st, w, k, n) := iln_e rfl (dt_q dX1_copy_0_D 5 rfl) rfl
theorem eX1_copy_10 : WP (MX1_copy g) Q (10, [some (.ref p), l1, l2], st, w, k, n) = WP (MX1_copy g) Q (11, [some (.ref p), l1, l2], .ref p :: st, w, k, n) := alnR_e rfl (dt_q dX1_copy_0_D 6 rfl) rfl
theorem eX1_copy_10N : WP (MX1_copy g) Q (10, [some .null, l1, l2], st, w, k, n) = WP (MX1_copy g) Q (11, [some .null, l1, l2], .null :: st, w, k, n) := alnN_e rfl (dt_q dX1_copy_0_D 6 rfl) rfl
theorem eX1_copy_11 : WP (MX1_copy g) Q (11, [l0, l1, l2], .ref p :: st, w, k, n) = go (rd g w p) 5 fun fs => ∃ v, fs[0]? = some v ∧ WP (MX1_copy g) Q (14, [l0, l1, l2], v :: st, w, k, n) := get_e rfl (dt_q dX1_copy_0_D 7 rfl) rfl
theorem eX1_copy_14 : WP (MX1_copy g) Q (14, [l0, l1, some (.int a)], st, w, k, n) = WP (MX1_copy g) Q (15, [l0, l1, some (.int a)], .int a :: st, w, k, n) := iln_e rfl (dt_q dX1_copy_0_D 8 rfl) rfl
theorem eX1_copy_15 : WP (MX1_copy g) Q (15, [l0, l1, l2], .int a :: .ref p :: st, w, k, n) = gl (rd g w p) 0 fun N f => vp_in a N ∧ WP (MX1_copy g) Q (16, [l0, l1, l2], .long (f a.toNatClampNeg) :: st, w, k, n) := laload_e rfl (dt_q dX1_copy_0_D 9 rfl)
theorem eX1_copy_16 {z0 : Int32} {z1 : Int64} : WP (MX1_copy g) Q (16, [l0, l1, l2], .long z1 :: .int z0 :: .ref p :: st, w, k, n) = (go (rd g w p) 5 (fun _ => True) ∧ wt st ≤ 8 ∧ k + 0 ≤ 2 ∧ n + 0 ≤ 12 ∧ WP (MX1_putNumber g) (kx (fun v w' => WP (MX1_copy g) Q (19, [l0, l1, l2], v.toList ++ st, w', k + 0, n + 0)) (fun E w' => Q (.inr E) w')) (0, [some (.ref p), some (.int z0), some (.long z1), none], [], w, 0, 0)) := csV0 (M := (MX1_copy g)) (mc := (fun _ _ => 0)) (ms := (fun _ _ => 0)) (As := [.int z0, .long z1]) (rest := st) (MX1_putNumber g) rfl rfl rfl (dt_q dX1_copy_0_D 10 rfl) rfl rfl rfl rfl rfl rfl
theorem eX1_copy_19 : WP (MX1_copy g) Q (19, [l0, l1, l2], [.int a], w, k, n) = (k ≤ 2 ∧ n ≤ 12 ∧ Q (.inl (some (.int a))) w) := iretI_e rfl (dt_q dX1_copy_0_D 11 rfl) rfl
end
theorem vMX1_copy {l : Launch} (hl : l.stackTraces = false) (G : GT) : vM l G (MX1_copy (gg G)) := vM_k RX1 cX1_copy rfl rfl (all_c (vF_RX1_9) (all_n)) all_n all_n all_n all_n (fun h => absurd rfl h) (all_c (kc_116 hl wk_353) (all_c (kc_119 hl wk_464) (all_n))) all_n all_n (fun h => absurd rfl h) rfl all_n
theorem okX1_copy {l : Launch} (hl : l.stackTraces = false) {G : GT} : ∀ (args : List Value) (w : Hw) (S : Ot → Hw → Prop), spOf (MX1_copy (gg G)) args w S → CX l G yX1_copy (.code yX1_copy cX1_copy 3 (some .int)) 7 2 12 args w S := CX_sp (M := MX1_copy (gg G)) (y := yX1_copy) hl (by decide) rfl (vMX1_copy hl G) (fun h => by cases h) rfl
abbrev dX1_ofNumber_0_T : List (Nat × Instr × Nat) := [(0, .iload_n 1, 1), (1, .invokestatic 35, 3), (4, .aload_n 0, 1), (5, .getfield 9, 3), (8, .iload_n 1, 1), (9, .laload, 1), (10, .iload_n 2, 1), (11, .invokestatic 60, 3), (14, .ireturn, 1)]
theorem dX1_ofNumber_0_D : dtc cX1_ofNumber dX1_ofNumber_0_T = true := by decide +kernel
def MX1_ofNumber (g : RO) : MT := ((RX1, cX1_ofNumber, 3, 7, 1, 6, false, some .int), [(9, 5, 0)], [], [], [], [], 0, [(35, 0, 1, 0, 6, (fun _ _ => 1), (fun _ _ => 6), yX1_needNumber, spOf (MX1_needNumber g)), (60, 0, 2, 0, 2, (fun _ _ => 0), (fun _ _ => 0), yX1_halfOf, spOf (MX1_halfOf g))], [], [], 0, [], [], g)
section
variable {g : RO} {Q : Ot → Hw → Prop} {st : List Value} {w : Hw} {k n p q : Nat} {a b : Int32} {x y : Int64} {u v : Value} {l0 l1 l2 : Option Value}
theorem eX1_ofNumber_0 : WP (MX1_ofNumber g) Q (0, [l0, some (.int a), l2], st, w, k, n) = WP (MX1_ofNumber g) Q (1, [l0, some (.int a), l2], .int a :: st, w, k, n) := iln_e rfl (dt_q dX1_ofNumber_0_D 0 rfl) rfl
theorem eX1_ofNumber_1 {z0 : Int32} : WP (MX1_ofNumber g) Q (1, [l0, l1, l2], .int z0 :: st, w, k, n) = (wt st ≤ 8 ∧ k + 1 ≤ 1 ∧ n + 6 ≤ 6 ∧ WP (MX1_needNumber g) (kx (fun v w' => WP (MX1_ofNumber g) Q (4, [l0, l1, l2], v.toList ++ st, w', k + 1, n + 6)) (fun E w' => Q (.inr E) w')) (0, [some (.int z0)], [], w, 0, 0)) := csS0 (M := (MX1_ofNumber g)) (mc := (fun _ _ => 1)) (ms := (fun _ _ => 6)) (As := [.int z0]) (rest := st) (MX1_needNumber g) rfl rfl rfl (dt_q dX1_ofNumber_0_D 1 rfl) rfl rfl rfl rfl rfl rfl rfl
theorem eX1_ofNumber_4 : WP (MX1_ofNumber g) Q (4, [some (.ref p), l1, l2], st, w, k, n) = WP (MX1_ofNumber g) Q (5, [some (.ref p), l1, l2], .ref p :: st, w, k, n) := alnR_e rfl (dt_q dX1_ofNumber_0_D 2 rfl) rfl
theorem eX1_ofNumber_4N : WP (MX1_ofNumber g) Q (4, [some .null, l1, l2], st, w, k, n) = WP (MX1_ofNumber g) Q (5, [some .null, l1, l2], .null :: st, w, k, n) := alnN_e rfl (dt_q dX1_ofNumber_0_D 2 rfl) rfl
theorem eX1_ofNumber_5 : WP (MX1_ofNumber g) Q (5, [l0, l1, l2], .ref p :: st, w, k, n) = go (rd g w p) 5 fun fs => ∃ v, fs[0]? = some v ∧ WP (MX1_ofNumber g) Q (8, [l0, l1, l2], v :: st, w, k, n) := get_e rfl (dt_q dX1_ofNumber_0_D 3 rfl) rfl
theorem eX1_ofNumber_8 : WP (MX1_ofNumber g) Q (8, [l0, some (.int a), l2], st, w, k, n) = WP (MX1_ofNumber g) Q (9, [l0, some (.int a), l2], .int a :: st, w, k, n) := iln_e rfl (dt_q dX1_ofNumber_0_D 4 rfl) rfl
theorem eX1_ofNumber_9 : WP (MX1_ofNumber g) Q (9, [l0, l1, l2], .int a :: .ref p :: st, w, k, n) = gl (rd g w p) 0 fun N f => vp_in a N ∧ WP (MX1_ofNumber g) Q (10, [l0, l1, l2], .long (f a.toNatClampNeg) :: st, w, k, n) := laload_e rfl (dt_q dX1_ofNumber_0_D 5 rfl)
theorem eX1_ofNumber_10 : WP (MX1_ofNumber g) Q (10, [l0, l1, some (.int a)], st, w, k, n) = WP (MX1_ofNumber g) Q (11, [l0, l1, some (.int a)], .int a :: st, w, k, n) := iln_e rfl (dt_q dX1_ofNumber_0_D 6 rfl) rfl
theorem eX1_ofNumber_11 {z0 : Int64} {z1 : Int32} : WP (MX1_ofNumber g) Q (11, [l0, l1, l2], .int z1 :: .long z0 :: st, w, k, n) = (wt st ≤ 8 ∧ k + 0 ≤ 1 ∧ n + 0 ≤ 6 ∧ WP (MX1_halfOf g) (kx (fun v w' => WP (MX1_ofNumber g) Q (14, [l0, l1, l2], v.toList ++ st, w', k + 0, n + 0)) (fun E w' => Q (.inr E) w')) (0, [some (.long z0), none, some (.int z1)], [], w, 0, 0)) := csS0 (M := (MX1_ofNumber g)) (mc := (fun _ _ => 0)) (ms := (fun _ _ => 0)) (As := [.long z0, .int z1]) (rest := st) (MX1_halfOf g) rfl rfl rfl (dt_q dX1_ofNumber_0_D 7 rfl) rfl rfl rfl rfl rfl rfl rfl
theorem eX1_ofNumber_14 : WP (MX1_ofNumber g) Q (14, [l0, l1, l2], [.int a], w, k, n) = (k ≤ 1 ∧ n ≤ 6 ∧ Q (.inl (some (.int a))) w) := iretI_e rfl (dt_q dX1_ofNumber_0_D 8 rfl) rfl
end
theorem wk_491 : (.code yX1_halfOf cX1_halfOf 3 (some .int) : Jvm.Cond) ∈ WS := WS_t2 193 rfl rfl
theorem wk_489 : (.methodLink RX1 60 yX1_halfOf : Jvm.Cond) ∈ WS := WS_t2 191 rfl rfl
theorem wk_490 : (.static yX1_halfOf : Jvm.Cond) ∈ WS := WS_t2 192 rfl rfl
theorem kc_120 {l : Launch} (hl : l.stackTraces = false) {G : GT} {own : String} {i : Nat} (hw : Jvm.Cond.methodLink own i yX1_halfOf ∈ WS) : vCal l G own i (0, 2, 0, 2, (fun _ _ => 0), (fun _ _ => 0), yX1_halfOf, spOf (MX1_halfOf (gg G))) := ⟨cX1_halfOf, 3, some .int, fun y hy => by subst hy; exact ⟨by decide, ⟨_, wk_491, okX1_halfOf hl, Or.inl ⟨Nat.ne_of_beq_eq_false rfl, rfl⟩⟩, wk_59, nc14, ⟨(by decide +kernel : (parseMethodDescriptor yX1_halfOf.desc).map (fun d => d.parameters.length) = some 2), hw, wk_490⟩⟩⟩
theorem vMX1_ofNumber {l : Launch} (hl : l.stackTraces = false) (G : GT) : vM l G (MX1_ofNumber (gg G)) := vM_k RX1 cX1_ofNumber rfl rfl (all_c (vF_RX1_9) (all_n)) all_n all_n all_n all_n (fun h => absurd rfl h) (all_c (kc_116 hl wk_353) (all_c (kc_120 hl wk_489) (all_n))) all_n all_n (fun h => absurd rfl h) rfl all_n
theorem okX1_ofNumber {l : Launch} (hl : l.stackTraces = false) {G : GT} : ∀ (args : List Value) (w : Hw) (S : Ot → Hw → Prop), spOf (MX1_ofNumber (gg G)) args w S → CX l G yX1_ofNumber (.code yX1_ofNumber cX1_ofNumber 3 (some .int)) 7 1 6 args w S := CX_sp (M := MX1_ofNumber (gg G)) (y := yX1_ofNumber) hl (by decide) rfl (vMX1_ofNumber hl G) (fun h => by cases h) rfl
abbrev dX1_order_0_T : List (Nat × Instr × Nat) := [(0, .iload_n 1, 1), (1, .invokestatic 35, 3), (4, .iload_n 2, 1), (5, .invokestatic 35, 3), (8, .aload_n 0, 1), (9, .getfield 9, 3), (12, .iload_n 1, 1), (13, .laload, 1), (14, .aload_n 0, 1), (15, .getfield 9, 3), (18, .iload_n 2, 1), (19, .laload, 1), (20, .lcmp, 1), (21, .ifCond .ge 5, 3), (24, .iconst (-1), 1), (25, .ireturn, 1), (26, .aload_n 0, 1), (27, .getfield 9, 3), (30, .iload_n 1, 1), (31, .laload, 1), (32, .aload_n 0, 1), (33, .getfield 9, 3), (36, .iload_n 2, 1), (37, .laload, 1), (38, .lcmp, 1), (39, .ifCond .le 7, 3), (42, .iconst 1, 1), (43, .goto 4, 3), (46, .iconst 0, 1), (47, .ireturn, 1)]
theorem dX1_order_0_D : dtc cX1_order dX1_order_0_T = true := by decide +kernel
def MX1_order (g : RO) : MT := ((RX1, cX1_order, 3, 7, 2, 12, false, some .int), [(9, 5, 0)], [], [], [], [], 0, [(35, 0, 1, 0, 6, (fun _ _ => 1), (fun _ _ => 6), yX1_needNumber, spOf (MX1_needNumber g))], [], [], 0, [], [], g)
section
variable {g : RO} {Q : Ot → Hw → Prop} {st : List Value} {w : Hw} {k n p q : Nat} {a b : Int32} {x y : Int64} {u v : Value} {l0 l1 l2 : Option Value}
theorem eX1_order_0 : WP (MX1_order g) Q (0, [l0, some (.int a), l2], st, w, k, n) = WP (MX1_order g) Q (1, [l0, some (.int a), l2], .int a :: st, w, k, n) := iln_e rfl (dt_q dX1_order_0_D 0 rfl) rfl
theorem eX1_order_1 {z0 : Int32} : WP (MX1_order g) Q (1, [l0, l1, l2], .int z0 :: st, w, k, n) = (wt st ≤ 8 ∧ k + 1 ≤ 2 ∧ n + 6 ≤ 12 ∧ WP (MX1_needNumber g) (kx (fun v w' => WP (MX1_order g) Q (4, [l0, l1, l2], v.toList ++ st, w', k + 1, n + 6)) (fun E w' => Q (.inr E) w')) (0, [some (.int z0)], [], w, 0, 0)) := csS0 (M := (MX1_order g)) (mc := (fun _ _ => 1)) (ms := (fun _ _ => 6)) (As := [.int z0]) (rest := st) (MX1_needNumber g) rfl rfl rfl (dt_q dX1_order_0_D 1 rfl) rfl rfl rfl rfl rfl rfl rfl
theorem eX1_order_4 : WP (MX1_order g) Q (4, [l0, l1, some (.int a)], st, w, k, n) = WP (MX1_order g) Q (5, [l0, l1, some (.int a)], .int a :: st, w, k, n) := iln_e rfl (dt_q dX1_order_0_D 2 rfl) rfl
theorem eX1_order_5 {z0 : Int32} : WP (MX1_order g) Q (5, [l0, l1, l2], .int z0 :: st, w, k, n) = (wt st ≤ 8 ∧ k + 1 ≤ 2 ∧ n + 6 ≤ 12 ∧ WP (MX1_needNumber g) (kx (fun v w' => WP (MX1_order g) Q (8, [l0, l1, l2], v.toList ++ st, w', k + 1, n + 6)) (fun E w' => Q (.inr E) w')) (0, [some (.int z0)], [], w, 0, 0)) := csS0 (M := (MX1_order g)) (mc := (fun _ _ => 1)) (ms := (fun _ _ => 6)) (As := [.int z0]) (rest := st) (MX1_needNumber g) rfl rfl rfl (dt_q dX1_order_0_D 3 rfl) rfl rfl rfl rfl rfl rfl rfl
theorem eX1_order_8 : WP (MX1_order g) Q (8, [some (.ref p), l1, l2], st, w, k, n) = WP (MX1_order g) Q (9, [some (.ref p), l1, l2], .ref p :: st, w, k, n) := alnR_e rfl (dt_q dX1_order_0_D 4 rfl) rfl
theorem eX1_order_8N : WP (MX1_order g) Q (8, [some .null, l1, l2], st, w, k, n) = WP (MX1_order g) Q (9, [some .null, l1, l2], .null :: st, w, k, n) := alnN_e rfl (dt_q dX1_order_0_D 4 rfl) rfl
theorem eX1_order_9 : WP (MX1_order g) Q (9, [l0, l1, l2], .ref p :: st, w, k, n) = go (rd g w p) 5 fun fs => ∃ v, fs[0]? = some v ∧ WP (MX1_order g) Q (12, [l0, l1, l2], v :: st, w, k, n) := get_e rfl (dt_q dX1_order_0_D 5 rfl) rfl
theorem eX1_order_12 : WP (MX1_order g) Q (12, [l0, some (.int a), l2], st, w, k, n) = WP (MX1_order g) Q (13, [l0, some (.int a), l2], .int a :: st, w, k, n) := iln_e rfl (dt_q dX1_order_0_D 6 rfl) rfl
theorem eX1_order_13 : WP (MX1_order g) Q (13, [l0, l1, l2], .int a :: .ref p :: st, w, k, n) = gl (rd g w p) 0 fun N f => vp_in a N ∧ WP (MX1_order g) Q (14, [l0, l1, l2], .long (f a.toNatClampNeg) :: st, w, k, n) := laload_e rfl (dt_q dX1_order_0_D 7 rfl)
theorem eX1_order_14 : WP (MX1_order g) Q (14, [some (.ref p), l1, l2], st, w, k, n) = WP (MX1_order g) Q (15, [some (.ref p), l1, l2], .ref p :: st, w, k, n) := alnR_e rfl (dt_q dX1_order_0_D 8 rfl) rfl
theorem eX1_order_14N : WP (MX1_order g) Q (14, [some .null, l1, l2], st, w, k, n) = WP (MX1_order g) Q (15, [some .null, l1, l2], .null :: st, w, k, n) := alnN_e rfl (dt_q dX1_order_0_D 8 rfl) rfl
theorem eX1_order_15 : WP (MX1_order g) Q (15, [l0, l1, l2], .ref p :: st, w, k, n) = go (rd g w p) 5 fun fs => ∃ v, fs[0]? = some v ∧ WP (MX1_order g) Q (18, [l0, l1, l2], v :: st, w, k, n) := get_e rfl (dt_q dX1_order_0_D 9 rfl) rfl
theorem eX1_order_18 : WP (MX1_order g) Q (18, [l0, l1, some (.int a)], st, w, k, n) = WP (MX1_order g) Q (19, [l0, l1, some (.int a)], .int a :: st, w, k, n) := iln_e rfl (dt_q dX1_order_0_D 10 rfl) rfl
theorem eX1_order_19 : WP (MX1_order g) Q (19, [l0, l1, l2], .int a :: .ref p :: st, w, k, n) = gl (rd g w p) 0 fun N f => vp_in a N ∧ WP (MX1_order g) Q (20, [l0, l1, l2], .long (f a.toNatClampNeg) :: st, w, k, n) := laload_e rfl (dt_q dX1_order_0_D 11 rfl)
theorem eX1_order_20 : WP (MX1_order g) Q (20, [l0, l1, l2], .long y :: .long x :: st, w, k, n) = WP (MX1_order g) Q (21, [l0, l1, l2], .int (lg_cmp x y) :: st, w, k, n) := lcmp_e rfl (dt_q dX1_order_0_D 12 rfl)
theorem eX1_order_21 : WP (MX1_order g) Q (21, [l0, l1, l2], .int a :: st, w, k, n) = if 0 ≤ a then WP (MX1_order g) Q (26, [l0, l1, l2], st, w, k, n) else WP (MX1_order g) Q (24, [l0, l1, l2], st, w, k, n) := ifc_e (0 ≤ a) rfl (dt_q dX1_order_0_D 13 rfl) rfl (by decide)
theorem eX1_order_24 : WP (MX1_order g) Q (24, [l0, l1, l2], st, w, k, n) = WP (MX1_order g) Q (25, [l0, l1, l2], .int (-1) :: st, w, k, n) := ic_m rfl (dt_q dX1_order_0_D 14 rfl)
theorem eX1_order_25 : WP (MX1_order g) Q (25, [l0, l1, l2], [.int a], w, k, n) = (k ≤ 2 ∧ n ≤ 12 ∧ Q (.inl (some (.int a))) w) := iretI_e rfl (dt_q dX1_order_0_D 15 rfl) rfl
theorem eX1_order_26 : WP (MX1_order g) Q (26, [some (.ref p), l1, l2], st, w, k, n) = WP (MX1_order g) Q (27, [some (.ref p), l1, l2], .ref p :: st, w, k, n) := alnR_e rfl (dt_q dX1_order_0_D 16 rfl) rfl
theorem eX1_order_26N : WP (MX1_order g) Q (26, [some .null, l1, l2], st, w, k, n) = WP (MX1_order g) Q (27, [some .null, l1, l2], .null :: st, w, k, n) := alnN_e rfl (dt_q dX1_order_0_D 16 rfl) rfl
theorem eX1_order_27 : WP (MX1_order g) Q (27, [l0, l1, l2], .ref p :: st, w, k, n) = go (rd g w p) 5 fun fs => ∃ v, fs[0]? = some v ∧ WP (MX1_order g) Q (30, [l0, l1, l2], v :: st, w, k, n) := get_e rfl (dt_q dX1_order_0_D 17 rfl) rfl
theorem eX1_order_30 : WP (MX1_order g) Q (30, [l0, some (.int a), l2], st, w, k, n) = WP (MX1_order g) Q (31, [l0, some (.int a), l2], .int a :: st, w, k, n) := iln_e rfl (dt_q dX1_order_0_D 18 rfl) rfl
theorem eX1_order_31 : WP (MX1_order g) Q (31, [l0, l1, l2], .int a :: .ref p :: st, w, k, n) = gl (rd g w p) 0 fun N f => vp_in a N ∧ WP (MX1_order g) Q (32, [l0, l1, l2], .long (f a.toNatClampNeg) :: st, w, k, n) := laload_e rfl (dt_q dX1_order_0_D 19 rfl)
theorem eX1_order_32 : WP (MX1_order g) Q (32, [some (.ref p), l1, l2], st, w, k, n) = WP (MX1_order g) Q (33, [some (.ref p), l1, l2], .ref p :: st, w, k, n) := alnR_e rfl (dt_q dX1_order_0_D 20 rfl) rfl
theorem eX1_order_32N : WP (MX1_order g) Q (32, [some .null, l1, l2], st, w, k, n) = WP (MX1_order g) Q (33, [some .null, l1, l2], .null :: st, w, k, n) := alnN_e rfl (dt_q dX1_order_0_D 20 rfl) rfl
theorem eX1_order_33 : WP (MX1_order g) Q (33, [l0, l1, l2], .ref p :: st, w, k, n) = go (rd g w p) 5 fun fs => ∃ v, fs[0]? = some v ∧ WP (MX1_order g) Q (36, [l0, l1, l2], v :: st, w, k, n) := get_e rfl (dt_q dX1_order_0_D 21 rfl) rfl
theorem eX1_order_36 : WP (MX1_order g) Q (36, [l0, l1, some (.int a)], st, w, k, n) = WP (MX1_order g) Q (37, [l0, l1, some (.int a)], .int a :: st, w, k, n) := iln_e rfl (dt_q dX1_order_0_D 22 rfl) rfl
theorem eX1_order_37 : WP (MX1_order g) Q (37, [l0, l1, l2], .int a :: .ref p :: st, w, k, n) = gl (rd g w p) 0 fun N f => vp_in a N ∧ WP (MX1_order g) Q (38, [l0, l1, l2], .long (f a.toNatClampNeg) :: st, w, k, n) := laload_e rfl (dt_q dX1_order_0_D 23 rfl)
theorem eX1_order_38 : WP (MX1_order g) Q (38, [l0, l1, l2], .long y :: .long x :: st, w, k, n) = WP (MX1_order g) Q (39, [l0, l1, l2], .int (lg_cmp x y) :: st, w, k, n) := lcmp_e rfl (dt_q dX1_order_0_D 24 rfl)
theorem eX1_order_39 : WP (MX1_order g) Q (39, [l0, l1, l2], .int a :: st, w, k, n) = if a ≤ 0 then WP (MX1_order g) Q (46, [l0, l1, l2], st, w, k, n) else WP (MX1_order g) Q (42, [l0, l1, l2], st, w, k, n) := ifc_e (a ≤ 0) rfl (dt_q dX1_order_0_D 25 rfl) rfl (by decide)
theorem eX1_order_42 : WP (MX1_order g) Q (42, [l0, l1, l2], st, w, k, n) = WP (MX1_order g) Q (43, [l0, l1, l2], .int 1 :: st, w, k, n) := ic_1 rfl (dt_q dX1_order_0_D 26 rfl)
theorem eX1_order_43 : WP (MX1_order g) Q (43, [l0, l1, l2], st, w, k, n) = WP (MX1_order g) Q (47, [l0, l1, l2], st, w, k, n) := goto_e rfl (dt_q dX1_order_0_D 27 rfl) (by decide)
theorem eX1_order_46 : WP (MX1_order g) Q (46, [l0, l1, l2], st, w, k, n) = WP (MX1_order g) Q (47, [l0, l1, l2], .int 0 :: st, w, k, n) := ic_0 rfl (dt_q dX1_order_0_D 28 rfl)
theorem eX1_order_47 : WP (MX1_order g) Q (47, [l0, l1, l2], [.int a], w, k, n) = (k ≤ 2 ∧ n ≤ 12 ∧ Q (.inl (some (.int a))) w) := iretI_e rfl (dt_q dX1_order_0_D 29 rfl) rfl
end
theorem vMX1_order {l : Launch} (hl : l.stackTraces = false) (G : GT) : vM l G (MX1_order (gg G)) := vM_k RX1 cX1_order rfl rfl (all_c (vF_RX1_9) (all_n)) all_n all_n all_n all_n (fun h => absurd rfl h) (all_c (kc_116 hl wk_353) (all_n)) all_n all_n (fun h => absurd rfl h) rfl all_n
theorem okX1_order {l : Launch} (hl : l.stackTraces = false) {G : GT} : ∀ (args : List Value) (w : Hw) (S : Ot → Hw → Prop), spOf (MX1_order (gg G)) args w S → CX l G yX1_order (.code yX1_order cX1_order 3 (some .int)) 7 2 12 args w S := CX_sp (M := MX1_order (gg G)) (y := yX1_order) hl (by decide) rfl (vMX1_order hl G) (fun h => by cases h) rfl
abbrev dX1_two_0_T : List (Nat × Instr × Nat) := [(0, .iload_n 1, 1), (1, .invokestatic 79, 3), (4, .iload_n 2, 1), (5, .invokestatic 35, 3), (8, .iload_n 3, 1), (9, .invokestatic 35, 3), (12, .aload_n 0, 1), (13, .iload_n 1, 1), (14, .aload_n 0, 1), (15, .getfield 9, 3), (18, .iload_n 2, 1), (19, .laload, 1), (20, .aload_n 0, 1), (21, .getfield 9, 3), (24, .iload_n 3, 1), (25, .laload, 1), (26, .invokestatic 82, 3), (29, .invokevirtual 86, 3), (32, .ireturn, 1)]
theorem dX1_two_0_D : dtc cX1_two dX1_two_0_T = true := by decide +kernel
def MX1_two (g : RO) : MT := ((RX1, cX1_two, 4, 7, 4, 22, false, some .int), [(9, 5, 0)], [], [], [], [], 0, [(79, 0, 1, 0, 6, (fun _ _ => 1), (fun _ _ => 6), yX1_needCard, spOf (MX1_needCard g)), (35, 0, 1, 0, 6, (fun _ _ => 1), (fun _ _ => 6), yX1_needNumber, spOf (MX1_needNumber g)), (82, 1, 2, 0, 3, (fun _ _ => 1), (fun _ _ => 4), yX0_ofTwo, spOf (MX0_ofTwo g)), (86, 2, 3, 5, 2, (fun _ _ => 0), (fun _ _ => 0), yX1_give, spOf (MX1_give g))], [], [], 0, [], [], g)
section
variable {g : RO} {Q : Ot → Hw → Prop} {st : List Value} {w : Hw} {k n p q : Nat} {a b : Int32} {x y : Int64} {u v : Value} {l0 l1 l2 l3 : Option Value}
theorem eX1_two_0 : WP (MX1_two g) Q (0, [l0, some (.int a), l2, l3], st, w, k, n) = WP (MX1_two g) Q (1, [l0, some (.int a), l2, l3], .int a :: st, w, k, n) := iln_e rfl (dt_q dX1_two_0_D 0 rfl) rfl
theorem eX1_two_1 {z0 : Int32} : WP (MX1_two g) Q (1, [l0, l1, l2, l3], .int z0 :: st, w, k, n) = (wt st ≤ 8 ∧ k + 1 ≤ 4 ∧ n + 6 ≤ 22 ∧ WP (MX1_needCard g) (kx (fun v w' => WP (MX1_two g) Q (4, [l0, l1, l2, l3], v.toList ++ st, w', k + 1, n + 6)) (fun E w' => Q (.inr E) w')) (0, [some (.int z0)], [], w, 0, 0)) := csS0 (M := (MX1_two g)) (mc := (fun _ _ => 1)) (ms := (fun _ _ => 6)) (As := [.int z0]) (rest := st) (MX1_needCard g) rfl rfl rfl (dt_q dX1_two_0_D 1 rfl) rfl rfl rfl rfl rfl rfl rfl
theorem eX1_two_4 : WP (MX1_two g) Q (4, [l0, l1, some (.int a), l3], st, w, k, n) = WP (MX1_two g) Q (5, [l0, l1, some (.int a), l3], .int a :: st, w, k, n) := iln_e rfl (dt_q dX1_two_0_D 2 rfl) rfl
theorem eX1_two_5 {z0 : Int32} : WP (MX1_two g) Q (5, [l0, l1, l2, l3], .int z0 :: st, w, k, n) = (wt st ≤ 8 ∧ k + 1 ≤ 4 ∧ n + 6 ≤ 22 ∧ WP (MX1_needNumber g) (kx (fun v w' => WP (MX1_two g) Q (8, [l0, l1, l2, l3], v.toList ++ st, w', k + 1, n + 6)) (fun E w' => Q (.inr E) w')) (0, [some (.int z0)], [], w, 0, 0)) := csS0 (M := (MX1_two g)) (mc := (fun _ _ => 1)) (ms := (fun _ _ => 6)) (As := [.int z0]) (rest := st) (MX1_needNumber g) rfl rfl rfl (dt_q dX1_two_0_D 3 rfl) rfl rfl rfl rfl rfl rfl rfl
theorem eX1_two_8 : WP (MX1_two g) Q (8, [l0, l1, l2, some (.int a)], st, w, k, n) = WP (MX1_two g) Q (9, [l0, l1, l2, some (.int a)], .int a :: st, w, k, n) := iln_e rfl (dt_q dX1_two_0_D 4 rfl) rfl
theorem eX1_two_9 {z0 : Int32} : WP (MX1_two g) Q (9, [l0, l1, l2, l3], .int z0 :: st, w, k, n) = (wt st ≤ 8 ∧ k + 1 ≤ 4 ∧ n + 6 ≤ 22 ∧ WP (MX1_needNumber g) (kx (fun v w' => WP (MX1_two g) Q (12, [l0, l1, l2, l3], v.toList ++ st, w', k + 1, n + 6)) (fun E w' => Q (.inr E) w')) (0, [some (.int z0)], [], w, 0, 0)) := csS0 (M := (MX1_two g)) (mc := (fun _ _ => 1)) (ms := (fun _ _ => 6)) (As := [.int z0]) (rest := st) (MX1_needNumber g) rfl rfl rfl (dt_q dX1_two_0_D 5 rfl) rfl rfl rfl rfl rfl rfl rfl
theorem eX1_two_12 : WP (MX1_two g) Q (12, [some (.ref p), l1, l2, l3], st, w, k, n) = WP (MX1_two g) Q (13, [some (.ref p), l1, l2, l3], .ref p :: st, w, k, n) := alnR_e rfl (dt_q dX1_two_0_D 6 rfl) rfl
theorem eX1_two_12N : WP (MX1_two g) Q (12, [some .null, l1, l2, l3], st, w, k, n) = WP (MX1_two g) Q (13, [some .null, l1, l2, l3], .null :: st, w, k, n) := alnN_e rfl (dt_q dX1_two_0_D 6 rfl) rfl
theorem eX1_two_13 : WP (MX1_two g) Q (13, [l0, some (.int a), l2, l3], st, w, k, n) = WP (MX1_two g) Q (14, [l0, some (.int a), l2, l3], .int a :: st, w, k, n) := iln_e rfl (dt_q dX1_two_0_D 7 rfl) rfl
theorem eX1_two_14 : WP (MX1_two g) Q (14, [some (.ref p), l1, l2, l3], st, w, k, n) = WP (MX1_two g) Q (15, [some (.ref p), l1, l2, l3], .ref p :: st, w, k, n) := alnR_e rfl (dt_q dX1_two_0_D 8 rfl) rfl
theorem eX1_two_14N : WP (MX1_two g) Q (14, [some .null, l1, l2, l3], st, w, k, n) = WP (MX1_two g) Q (15, [some .null, l1, l2, l3], .null :: st, w, k, n) := alnN_e rfl (dt_q dX1_two_0_D 8 rfl) rfl
theorem eX1_two_15 : WP (MX1_two g) Q (15, [l0, l1, l2, l3], .ref p :: st, w, k, n) = go (rd g w p) 5 fun fs => ∃ v, fs[0]? = some v ∧ WP (MX1_two g) Q (18, [l0, l1, l2, l3], v :: st, w, k, n) := get_e rfl (dt_q dX1_two_0_D 9 rfl) rfl
theorem eX1_two_18 : WP (MX1_two g) Q (18, [l0, l1, some (.int a), l3], st, w, k, n) = WP (MX1_two g) Q (19, [l0, l1, some (.int a), l3], .int a :: st, w, k, n) := iln_e rfl (dt_q dX1_two_0_D 10 rfl) rfl
theorem eX1_two_19 : WP (MX1_two g) Q (19, [l0, l1, l2, l3], .int a :: .ref p :: st, w, k, n) = gl (rd g w p) 0 fun N f => vp_in a N ∧ WP (MX1_two g) Q (20, [l0, l1, l2, l3], .long (f a.toNatClampNeg) :: st, w, k, n) := laload_e rfl (dt_q dX1_two_0_D 11 rfl)
theorem eX1_two_20 : WP (MX1_two g) Q (20, [some (.ref p), l1, l2, l3], st, w, k, n) = WP (MX1_two g) Q (21, [some (.ref p), l1, l2, l3], .ref p :: st, w, k, n) := alnR_e rfl (dt_q dX1_two_0_D 12 rfl) rfl
theorem eX1_two_20N : WP (MX1_two g) Q (20, [some .null, l1, l2, l3], st, w, k, n) = WP (MX1_two g) Q (21, [some .null, l1, l2, l3], .null :: st, w, k, n) := alnN_e rfl (dt_q dX1_two_0_D 12 rfl) rfl
theorem eX1_two_21 : WP (MX1_two g) Q (21, [l0, l1, l2, l3], .ref p :: st, w, k, n) = go (rd g w p) 5 fun fs => ∃ v, fs[0]? = some v ∧ WP (MX1_two g) Q (24, [l0, l1, l2, l3], v :: st, w, k, n) := get_e rfl (dt_q dX1_two_0_D 13 rfl) rfl
theorem eX1_two_24 : WP (MX1_two g) Q (24, [l0, l1, l2, some (.int a)], st, w, k, n) = WP (MX1_two g) Q (25, [l0, l1, l2, some (.int a)], .int a :: st, w, k, n) := iln_e rfl (dt_q dX1_two_0_D 14 rfl) rfl
theorem eX1_two_25 : WP (MX1_two g) Q (25, [l0, l1, l2, l3], .int a :: .ref p :: st, w, k, n) = gl (rd g w p) 0 fun N f => vp_in a N ∧ WP (MX1_two g) Q (26, [l0, l1, l2, l3], .long (f a.toNatClampNeg) :: st, w, k, n) := laload_e rfl (dt_q dX1_two_0_D 15 rfl)
theorem eX1_two_26 {z0 : Int64} {z1 : Int64} : WP (MX1_two g) Q (26, [l0, l1, l2, l3], .long z1 :: .long z0 :: st, w, k, n) = (wt st ≤ 8 ∧ k + 1 ≤ 4 ∧ n + 4 ≤ 22 ∧ WP (MX0_ofTwo g) (kx (fun v w' => WP (MX1_two g) Q (29, [l0, l1, l2, l3], v.toList ++ st, w', k + 1, n + 4)) (fun E w' => Q (.inr E) w')) (0, [some (.long z0), none, some (.long z1), none], [], w, 0, 0)) := csS0 (M := (MX1_two g)) (mc := (fun _ _ => 1)) (ms := (fun _ _ => 4)) (As := [.long z0, .long z1]) (rest := st) (MX0_ofTwo g) rfl rfl rfl (dt_q dX1_two_0_D 16 rfl) rfl rfl rfl rfl rfl rfl rfl
theorem eX1_two_29R {z0 : Int32} {z1 : Nat} : WP (MX1_two g) Q (29, [l0, l1, l2, l3], .ref z1 :: .int z0 :: .ref p :: st, w, k, n) = (go (rd g w p) 5 (fun _ => True) ∧ wt st ≤ 8 ∧ k + 0 ≤ 4 ∧ n + 0 ≤ 22 ∧ WP (MX1_give g) (kx (fun v w' => WP (MX1_two g) Q (32, [l0, l1, l2, l3], v.toList ++ st, w', k + 0, n + 0)) (fun E w' => Q (.inr E) w')) (0, [some (.ref p), some (.int z0), some (.ref z1)], [], w, 0, 0)) := csV0 (M := (MX1_two g)) (mc := (fun _ _ => 0)) (ms := (fun _ _ => 0)) (As := [.int z0, .ref z1]) (rest := st) (MX1_give g) rfl rfl rfl (dt_q dX1_two_0_D 17 rfl) rfl rfl rfl rfl rfl rfl
theorem eX1_two_29N {z0 : Int32} : WP (MX1_two g) Q (29, [l0, l1, l2, l3], .null :: .int z0 :: .ref p :: st, w, k, n) = (go (rd g w p) 5 (fun _ => True) ∧ wt st ≤ 8 ∧ k + 0 ≤ 4 ∧ n + 0 ≤ 22 ∧ WP (MX1_give g) (kx (fun v w' => WP (MX1_two g) Q (32, [l0, l1, l2, l3], v.toList ++ st, w', k + 0, n + 0)) (fun E w' => Q (.inr E) w')) (0, [some (.ref p), some (.int z0), some .null], [], w, 0, 0)) := csV0 (M := (MX1_two g)) (mc := (fun _ _ => 0)) (ms := (fun _ _ => 0)) (As := [.int z0, .null]) (rest := st) (MX1_give g) rfl rfl rfl (dt_q dX1_two_0_D 17 rfl) rfl rfl rfl rfl rfl rfl
theorem eX1_two_32 : WP (MX1_two g) Q (32, [l0, l1, l2, l3], [.int a], w, k, n) = (k ≤ 4 ∧ n ≤ 22 ∧ Q (.inl (some (.int a))) w) := iretI_e rfl (dt_q dX1_two_0_D 18 rfl) rfl
end
theorem wk_823 : (.code yX1_give cX1_give 3 (some .int) : Jvm.Cond) ∈ WS := WS_t4 45 rfl rfl
theorem wk_820 : (.methodLink RX1 86 yX1_give : Jvm.Cond) ∈ WS := WS_t4 42 rfl rfl
theorem wk_822 : (.instanceMethod yX1_give : Jvm.Cond) ∈ WS := WS_t4 44 rfl rfl
theorem wk_29 : (.selects RX1 yX1_give yX1_give : Jvm.Cond) ∈ WS := WS_at 29 (by decide +kernel) rfl
theorem kc_121 {l : Launch} (hl : l.stackTraces = false) {G : GT} {own : String} {i : Nat} (hw : Jvm.Cond.methodLink own i yX1_give ∈ WS) : vCal l G own i (2, 3, 5, 2, (fun _ _ => 0), (fun _ _ => 0), yX1_give, spOf (MX1_give (gg G))) := ⟨cX1_give, 3, some .int, fun y hy => by subst hy; exact ⟨by decide, ⟨_, wk_823, okX1_give hl, Or.inl ⟨Nat.ne_of_beq_eq_false rfl, rfl⟩⟩, wk_59, nc14, ⟨(by decide +kernel : (parseMethodDescriptor yX1_give.desc).map (fun d => d.parameters.length + 1) = some 3), hw, wk_822, wk_29, (RX1, TX1, 7), rfl, rfl⟩⟩⟩
theorem vMX1_two {l : Launch} (hl : l.stackTraces = false) (G : GT) : vM l G (MX1_two (gg G)) := vM_k RX1 cX1_two rfl rfl (all_c (vF_RX1_9) (all_n)) all_n all_n all_n all_n (fun h => absurd rfl h) (all_c (kc_78 hl wk_816) (all_c (kc_116 hl wk_353) (all_c (kc_83 hl (⟨"Rangecard", tm_1 (List.mem_of_getElem? (i := 134) rfl)⟩)) (all_c (kc_121 hl wk_820) (all_n))))) all_n all_n (fun h => absurd rfl h) rfl all_n
theorem okX1_two {l : Launch} (hl : l.stackTraces = false) {G : GT} : ∀ (args : List Value) (w : Hw) (S : Ot → Hw → Prop), spOf (MX1_two (gg G)) args w S → CX l G yX1_two (.code yX1_two cX1_two 4 (some .int)) 7 4 22 args w S := CX_sp (M := MX1_two (gg G)) (y := yX1_two) hl (by decide) rfl (vMX1_two hl G) (fun h => by cases h) rfl
abbrev dX1_three_0_T : List (Nat × Instr × Nat) := [(0, .iload_n 1, 1), (1, .invokestatic 79, 3), (4, .iload_n 2, 1), (5, .invokestatic 35, 3), (8, .iload_n 3, 1), (9, .invokestatic 35, 3), (12, .iload 4, 2), (14, .invokestatic 35, 3), (17, .aload_n 0, 1), (18, .iload_n 1, 1), (19, .aload_n 0, 1), (20, .getfield 9, 3), (23, .iload_n 2, 1), (24, .laload, 1), (25, .aload_n 0, 1), (26, .getfield 9, 3), (29, .iload_n 3, 1), (30, .laload, 1), (31, .aload_n 0, 1), (32, .getfield 9, 3), (35, .iload 4, 2), (37, .laload, 1), (38, .invokestatic 90, 3), (41, .invokevirtual 86, 3), (44, .ireturn, 1)]
theorem dX1_three_0_D : dtc cX1_three dX1_three_0_T = true := by decide +kernel
def MX1_three (g : RO) : MT := ((RX1, cX1_three, 5, 7, 5, 28, false, some .int), [(9, 5, 0)], [], [], [], [], 0, [(79, 0, 1, 0, 6, (fun _ _ => 1), (fun _ _ => 6), yX1_needCard, spOf (MX1_needCard g)), (35, 0, 1, 0, 6, (fun _ _ => 1), (fun _ _ => 6), yX1_needNumber, spOf (MX1_needNumber g)), (90, 1, 3, 0, 3, (fun _ _ => 1), (fun _ _ => 4), yX0_ofThree, spOf (MX0_ofThree g)), (86, 2, 3, 5, 2, (fun _ _ => 0), (fun _ _ => 0), yX1_give, spOf (MX1_give g))], [], [], 0, [], [], g)
section
variable {g : RO} {Q : Ot → Hw → Prop} {st : List Value} {w : Hw} {k n p q : Nat} {a b : Int32} {x y : Int64} {u v : Value} {l0 l1 l2 l3 l4 : Option Value}
theorem eX1_three_0 : WP (MX1_three g) Q (0, [l0, some (.int a), l2, l3, l4], st, w, k, n) = WP (MX1_three g) Q (1, [l0, some (.int a), l2, l3, l4], .int a :: st, w, k, n) := iln_e rfl (dt_q dX1_three_0_D 0 rfl) rfl
theorem eX1_three_1 {z0 : Int32} : WP (MX1_three g) Q (1, [l0, l1, l2, l3, l4], .int z0 :: st, w, k, n) = (wt st ≤ 8 ∧ k + 1 ≤ 5 ∧ n + 6 ≤ 28 ∧ WP (MX1_needCard g) (kx (fun v w' => WP (MX1_three g) Q (4, [l0, l1, l2, l3, l4], v.toList ++ st, w', k + 1, n + 6)) (fun E w' => Q (.inr E) w')) (0, [some (.int z0)], [], w, 0, 0)) := csS0 (M := (MX1_three g)) (mc := (fun _ _ => 1)) (ms := (fun _ _ => 6)) (As := [.int z0]) (rest := st) (MX1_needCard g) rfl rfl rfl (dt_q dX1_three_0_D 1 rfl) rfl rfl rfl rfl rfl rfl rfl
theorem eX1_three_4 : WP (MX1_three g) Q (4, [l0, l1, some (.int a), l3, l4], st, w, k, n) = WP (MX1_three g) Q (5, [l0, l1, some (.int a), l3, l4], .int a :: st, w, k, n) := iln_e rfl (dt_q dX1_three_0_D 2 rfl) rfl
theorem eX1_three_5 {z0 : Int32} : WP (MX1_three g) Q (5, [l0, l1, l2, l3, l4], .int z0 :: st, w, k, n) = (wt st ≤ 8 ∧ k + 1 ≤ 5 ∧ n + 6 ≤ 28 ∧ WP (MX1_needNumber g) (kx (fun v w' => WP (MX1_three g) Q (8, [l0, l1, l2, l3, l4], v.toList ++ st, w', k + 1, n + 6)) (fun E w' => Q (.inr E) w')) (0, [some (.int z0)], [], w, 0, 0)) := csS0 (M := (MX1_three g)) (mc := (fun _ _ => 1)) (ms := (fun _ _ => 6)) (As := [.int z0]) (rest := st) (MX1_needNumber g) rfl rfl rfl (dt_q dX1_three_0_D 3 rfl) rfl rfl rfl rfl rfl rfl rfl
theorem eX1_three_8 : WP (MX1_three g) Q (8, [l0, l1, l2, some (.int a), l4], st, w, k, n) = WP (MX1_three g) Q (9, [l0, l1, l2, some (.int a), l4], .int a :: st, w, k, n) := iln_e rfl (dt_q dX1_three_0_D 4 rfl) rfl
theorem eX1_three_9 {z0 : Int32} : WP (MX1_three g) Q (9, [l0, l1, l2, l3, l4], .int z0 :: st, w, k, n) = (wt st ≤ 8 ∧ k + 1 ≤ 5 ∧ n + 6 ≤ 28 ∧ WP (MX1_needNumber g) (kx (fun v w' => WP (MX1_three g) Q (12, [l0, l1, l2, l3, l4], v.toList ++ st, w', k + 1, n + 6)) (fun E w' => Q (.inr E) w')) (0, [some (.int z0)], [], w, 0, 0)) := csS0 (M := (MX1_three g)) (mc := (fun _ _ => 1)) (ms := (fun _ _ => 6)) (As := [.int z0]) (rest := st) (MX1_needNumber g) rfl rfl rfl (dt_q dX1_three_0_D 5 rfl) rfl rfl rfl rfl rfl rfl rfl
theorem eX1_three_12 : WP (MX1_three g) Q (12, [l0, l1, l2, l3, some (.int a)], st, w, k, n) = WP (MX1_three g) Q (14, [l0, l1, l2, l3, some (.int a)], .int a :: st, w, k, n) := il_e rfl (dt_q dX1_three_0_D 6 rfl) rfl
theorem eX1_three_14 {z0 : Int32} : WP (MX1_three g) Q (14, [l0, l1, l2, l3, l4], .int z0 :: st, w, k, n) = (wt st ≤ 8 ∧ k + 1 ≤ 5 ∧ n + 6 ≤ 28 ∧ WP (MX1_needNumber g) (kx (fun v w' => WP (MX1_three g) Q (17, [l0, l1, l2, l3, l4], v.toList ++ st, w', k + 1, n + 6)) (fun E w' => Q (.inr E) w')) (0, [some (.int z0)], [], w, 0, 0)) := csS0 (M := (MX1_three g)) (mc := (fun _ _ => 1)) (ms := (fun _ _ => 6)) (As := [.int z0]) (rest := st) (MX1_needNumber g) rfl rfl rfl (dt_q dX1_three_0_D 7 rfl) rfl rfl rfl rfl rfl rfl rfl
theorem eX1_three_17 : WP (MX1_three g) Q (17, [some (.ref p), l1, l2, l3, l4], st, w, k, n) = WP (MX1_three g) Q (18, [some (.ref p), l1, l2, l3, l4], .ref p :: st, w, k, n) := alnR_e rfl (dt_q dX1_three_0_D 8 rfl) rfl
theorem eX1_three_17N : WP (MX1_three g) Q (17, [some .null, l1, l2, l3, l4], st, w, k, n) = WP (MX1_three g) Q (18, [some .null, l1, l2, l3, l4], .null :: st, w, k, n) := alnN_e rfl (dt_q dX1_three_0_D 8 rfl) rfl
theorem eX1_three_18 : WP (MX1_three g) Q (18, [l0, some (.int a), l2, l3, l4], st, w, k, n) = WP (MX1_three g) Q (19, [l0, some (.int a), l2, l3, l4], .int a :: st, w, k, n) := iln_e rfl (dt_q dX1_three_0_D 9 rfl) rfl
theorem eX1_three_19 : WP (MX1_three g) Q (19, [some (.ref p), l1, l2, l3, l4], st, w, k, n) = WP (MX1_three g) Q (20, [some (.ref p), l1, l2, l3, l4], .ref p :: st, w, k, n) := alnR_e rfl (dt_q dX1_three_0_D 10 rfl) rfl
theorem eX1_three_19N : WP (MX1_three g) Q (19, [some .null, l1, l2, l3, l4], st, w, k, n) = WP (MX1_three g) Q (20, [some .null, l1, l2, l3, l4], .null :: st, w, k, n) := alnN_e rfl (dt_q dX1_three_0_D 10 rfl) rfl
theorem eX1_three_20 : WP (MX1_three g) Q (20, [l0, l1, l2, l3, l4], .ref p :: st, w, k, n) = go (rd g w p) 5 fun fs => ∃ v, fs[0]? = some v ∧ WP (MX1_three g) Q (23, [l0, l1, l2, l3, l4], v :: st, w, k, n) := get_e rfl (dt_q dX1_three_0_D 11 rfl) rfl
theorem eX1_three_23 : WP (MX1_three g) Q (23, [l0, l1, some (.int a), l3, l4], st, w, k, n) = WP (MX1_three g) Q (24, [l0, l1, some (.int a), l3, l4], .int a :: st, w, k, n) := iln_e rfl (dt_q dX1_three_0_D 12 rfl) rfl
theorem eX1_three_24 : WP (MX1_three g) Q (24, [l0, l1, l2, l3, l4], .int a :: .ref p :: st, w, k, n) = gl (rd g w p) 0 fun N f => vp_in a N ∧ WP (MX1_three g) Q (25, [l0, l1, l2, l3, l4], .long (f a.toNatClampNeg) :: st, w, k, n) := laload_e rfl (dt_q dX1_three_0_D 13 rfl)
theorem eX1_three_25 : WP (MX1_three g) Q (25, [some (.ref p), l1, l2, l3, l4], st, w, k, n) = WP (MX1_three g) Q (26, [some (.ref p), l1, l2, l3, l4], .ref p :: st, w, k, n) := alnR_e rfl (dt_q dX1_three_0_D 14 rfl) rfl
theorem eX1_three_25N : WP (MX1_three g) Q (25, [some .null, l1, l2, l3, l4], st, w, k, n) = WP (MX1_three g) Q (26, [some .null, l1, l2, l3, l4], .null :: st, w, k, n) := alnN_e rfl (dt_q dX1_three_0_D 14 rfl) rfl
theorem eX1_three_26 : WP (MX1_three g) Q (26, [l0, l1, l2, l3, l4], .ref p :: st, w, k, n) = go (rd g w p) 5 fun fs => ∃ v, fs[0]? = some v ∧ WP (MX1_three g) Q (29, [l0, l1, l2, l3, l4], v :: st, w, k, n) := get_e rfl (dt_q dX1_three_0_D 15 rfl) rfl
theorem eX1_three_29 : WP (MX1_three g) Q (29, [l0, l1, l2, some (.int a), l4], st, w, k, n) = WP (MX1_three g) Q (30, [l0, l1, l2, some (.int a), l4], .int a :: st, w, k, n) := iln_e rfl (dt_q dX1_three_0_D 16 rfl) rfl
theorem eX1_three_30 : WP (MX1_three g) Q (30, [l0, l1, l2, l3, l4], .int a :: .ref p :: st, w, k, n) = gl (rd g w p) 0 fun N f => vp_in a N ∧ WP (MX1_three g) Q (31, [l0, l1, l2, l3, l4], .long (f a.toNatClampNeg) :: st, w, k, n) := laload_e rfl (dt_q dX1_three_0_D 17 rfl)
theorem eX1_three_31 : WP (MX1_three g) Q (31, [some (.ref p), l1, l2, l3, l4], st, w, k, n) = WP (MX1_three g) Q (32, [some (.ref p), l1, l2, l3, l4], .ref p :: st, w, k, n) := alnR_e rfl (dt_q dX1_three_0_D 18 rfl) rfl
theorem eX1_three_31N : WP (MX1_three g) Q (31, [some .null, l1, l2, l3, l4], st, w, k, n) = WP (MX1_three g) Q (32, [some .null, l1, l2, l3, l4], .null :: st, w, k, n) := alnN_e rfl (dt_q dX1_three_0_D 18 rfl) rfl
theorem eX1_three_32 : WP (MX1_three g) Q (32, [l0, l1, l2, l3, l4], .ref p :: st, w, k, n) = go (rd g w p) 5 fun fs => ∃ v, fs[0]? = some v ∧ WP (MX1_three g) Q (35, [l0, l1, l2, l3, l4], v :: st, w, k, n) := get_e rfl (dt_q dX1_three_0_D 19 rfl) rfl
theorem eX1_three_35 : WP (MX1_three g) Q (35, [l0, l1, l2, l3, some (.int a)], st, w, k, n) = WP (MX1_three g) Q (37, [l0, l1, l2, l3, some (.int a)], .int a :: st, w, k, n) := il_e rfl (dt_q dX1_three_0_D 20 rfl) rfl
theorem eX1_three_37 : WP (MX1_three g) Q (37, [l0, l1, l2, l3, l4], .int a :: .ref p :: st, w, k, n) = gl (rd g w p) 0 fun N f => vp_in a N ∧ WP (MX1_three g) Q (38, [l0, l1, l2, l3, l4], .long (f a.toNatClampNeg) :: st, w, k, n) := laload_e rfl (dt_q dX1_three_0_D 21 rfl)
theorem eX1_three_38 {z0 : Int64} {z1 : Int64} {z2 : Int64} : WP (MX1_three g) Q (38, [l0, l1, l2, l3, l4], .long z2 :: .long z1 :: .long z0 :: st, w, k, n) = (wt st ≤ 8 ∧ k + 1 ≤ 5 ∧ n + 4 ≤ 28 ∧ WP (MX0_ofThree g) (kx (fun v w' => WP (MX1_three g) Q (41, [l0, l1, l2, l3, l4], v.toList ++ st, w', k + 1, n + 4)) (fun E w' => Q (.inr E) w')) (0, [some (.long z0), none, some (.long z1), none, some (.long z2), none], [], w, 0, 0)) := csS0 (M := (MX1_three g)) (mc := (fun _ _ => 1)) (ms := (fun _ _ => 4)) (As := [.long z0, .long z1, .long z2]) (rest := st) (MX0_ofThree g) rfl rfl rfl (dt_q dX1_three_0_D 22 rfl) rfl rfl rfl rfl rfl rfl rfl
theorem eX1_three_41R {z0 : Int32} {z1 : Nat} : WP (MX1_three g) Q (41, [l0, l1, l2, l3, l4], .ref z1 :: .int z0 :: .ref p :: st, w, k, n) = (go (rd g w p) 5 (fun _ => True) ∧ wt st ≤ 8 ∧ k + 0 ≤ 5 ∧ n + 0 ≤ 28 ∧ WP (MX1_give g) (kx (fun v w' => WP (MX1_three g) Q (44, [l0, l1, l2, l3, l4], v.toList ++ st, w', k + 0, n + 0)) (fun E w' => Q (.inr E) w')) (0, [some (.ref p), some (.int z0), some (.ref z1)], [], w, 0, 0)) := csV0 (M := (MX1_three g)) (mc := (fun _ _ => 0)) (ms := (fun _ _ => 0)) (As := [.int z0, .ref z1]) (rest := st) (MX1_give g) rfl rfl rfl (dt_q dX1_three_0_D 23 rfl) rfl rfl rfl rfl rfl rfl
theorem eX1_three_41N {z0 : Int32} : WP (MX1_three g) Q (41, [l0, l1, l2, l3, l4], .null :: .int z0 :: .ref p :: st, w, k, n) = (go (rd g w p) 5 (fun _ => True) ∧ wt st ≤ 8 ∧ k + 0 ≤ 5 ∧ n + 0 ≤ 28 ∧ WP (MX1_give g) (kx (fun v w' => WP (MX1_three g) Q (44, [l0, l1, l2, l3, l4], v.toList ++ st, w', k + 0, n + 0)) (fun E w' => Q (.inr E) w')) (0, [some (.ref p), some (.int z0), some .null], [], w, 0, 0)) := csV0 (M := (MX1_three g)) (mc := (fun _ _ => 0)) (ms := (fun _ _ => 0)) (As := [.int z0, .null]) (rest := st) (MX1_give g) rfl rfl rfl (dt_q dX1_three_0_D 23 rfl) rfl rfl rfl rfl rfl rfl
theorem eX1_three_44 : WP (MX1_three g) Q (44, [l0, l1, l2, l3, l4], [.int a], w, k, n) = (k ≤ 5 ∧ n ≤ 28 ∧ Q (.inl (some (.int a))) w) := iretI_e rfl (dt_q dX1_three_0_D 24 rfl) rfl
end
theorem wk_837 : (.code yX0_ofThree cX0_ofThree 6 (some (.object "Rangecard$Range")) : Jvm.Cond) ∈ WS := WS_t4 59 rfl rfl
theorem wk_836 : (.static yX0_ofThree : Jvm.Cond) ∈ WS := WS_t4 58 rfl rfl
theorem kc_122 {l : Launch} (hl : l.stackTraces = false) {G : GT} {own : String} {i : Nat} (hw : ∃ host : String, Jvm.Cond.methodLinkNest own i yX0_ofThree host ∈ lw_tbl) : vCal l G own i (1, 3, 0, 3, (fun _ _ => 1), (fun _ _ => 4), yX0_ofThree, spOf (MX0_ofThree (gg G))) := ⟨cX0_ofThree, 6, some (.object "Rangecard$Range"), fun y hy => by subst hy; exact ⟨by decide, ⟨_, wk_837, okX0_ofThree hl, Or.inl ⟨Nat.ne_of_beq_eq_false rfl, rfl⟩⟩, wk_84, nc0, ⟨(by decide +kernel : (parseMethodDescriptor yX0_ofThree.desc).map (fun d => d.parameters.length) = some 3), hw, wk_836⟩⟩⟩
theorem vMX1_three {l : Launch} (hl : l.stackTraces = false) (G : GT) : vM l G (MX1_three (gg G)) := vM_k RX1 cX1_three rfl rfl (all_c (vF_RX1_9) (all_n)) all_n all_n all_n all_n (fun h => absurd rfl h) (all_c (kc_78 hl wk_816) (all_c (kc_116 hl wk_353) (all_c (kc_122 hl (⟨"Rangecard", tm_4 (List.mem_of_getElem? (i := 57) rfl)⟩)) (all_c (kc_121 hl wk_820) (all_n))))) all_n all_n (fun h => absurd rfl h) rfl all_n
theorem okX1_three {l : Launch} (hl : l.stackTraces = false) {G : GT} : ∀ (args : List Value) (w : Hw) (S : Ot → Hw → Prop), spOf (MX1_three (gg G)) args w S → CX l G yX1_three (.code yX1_three cX1_three 5 (some .int)) 7 5 28 args w S := CX_sp (M := MX1_three (gg G)) (y := yX1_three) hl (by decide) rfl (vMX1_three hl G) (fun h => by cases h) rfl
end
/-! 66.class11.lean.txt -/
section
abbrev dX1_four_0_T : List (Nat × Instr × Nat) := [(0, .iload_n 1, 1), (1, .invokestatic 79, 3), (4, .iload_n 2, 1), (5, .invokestatic 35, 3), (8, .iload_n 3, 1), (9, .invokestatic 35, 3), (12, .iload 4, 2), (14, .invokestatic 35, 3), (17, .iload 5, 2), (19, .invokestatic 35, 3), (22, .aload_n 0, 1), (23, .iload_n 1, 1), (24, .aload_n 0, 1), (25, .getfield 9, 3), (28, .iload_n 2, 1), (29, .laload, 1), (30, .aload_n 0, 1), (31, .getfield 9, 3), (34, .iload_n 3, 1), (35, .laload, 1), (36, .aload_n 0, 1), (37, .getfield 9, 3), (40, .iload 4, 2), (42, .laload, 1), (43, .aload_n 0, 1), (44, .getfield 9, 3), (47, .iload 5, 2), (49, .laload, 1), (50, .invokestatic 94, 3), (53, .invokevirtual 86, 3), (56, .ireturn, 1)]
theorem dX1_four_0_D : dtc cX1_four dX1_four_0_T = true := by decide +kernel
def MX1_four (g : RO) : MT := ((RX1, cX1_four, 6, 7, 6, 34, false, some .int), [(9, 5, 0)], [], [], [], [], 0, [(79, 0, 1, 0, 6, (fun _ _ => 1), (fun _ _ => 6), yX1_needCard, spOf (MX1_needCard g)), (35, 0, 1, 0, 6, (fun _ _ => 1), (fun _ _ => 6), yX1_needNumber, spOf (MX1_needNumber g)), (94, 1, 4, 0, 2, (fun _ _ => 1), (fun _ _ => 4), yX0_ofFour, spOf (MX0_ofFour g)), (86, 2, 3, 5, 2, (fun _ _ => 0), (fun _ _ => 0), yX1_give, spOf (MX1_give g))], [], [], 0, [], [], g)
section
variable {g : RO} {Q : Ot → Hw → Prop} {st : List Value} {w : Hw} {k n p q : Nat} {a b : Int32} {x y : Int64} {u v : Value} {l0 l1 l2 l3 l4 l5 : Option Value}
theorem eX1_four_0 : WP (MX1_four g) Q (0, [l0, some (.int a), l2, l3, l4, l5], st, w, k, n) = WP (MX1_four g) Q (1, [l0, some (.int a), l2, l3, l4, l5], .int a :: st, w, k, n) := iln_e rfl (dt_q dX1_four_0_D 0 rfl) rfl
theorem eX1_four_1 {z0 : Int32} : WP (MX1_four g) Q (1, [l0, l1, l2, l3, l4, l5], .int z0 :: st, w, k, n) = (wt st ≤ 8 ∧ k + 1 ≤ 6 ∧ n + 6 ≤ 34 ∧ WP (MX1_needCard g) (kx (fun v w' => WP (MX1_four g) Q (4, [l0, l1, l2, l3, l4, l5], v.toList ++ st, w', k + 1, n + 6)) (fun E w' => Q (.inr E) w')) (0, [some (.int z0)], [], w, 0, 0)) := csS0 (M := (MX1_four g)) (mc := (fun _ _ => 1)) (ms := (fun _ _ => 6)) (As := [.int z0]) (rest := st) (MX1_needCard g) rfl rfl rfl (dt_q dX1_four_0_D 1 rfl) rfl rfl rfl rfl rfl rfl rfl
theorem eX1_four_4 : WP (MX1_four g) Q (4, [l0, l1, some (.int a), l3, l4, l5], st, w, k, n) = WP (MX1_four g) Q (5, [l0, l1, some (.int a), l3, l4, l5], .int a :: st, w, k, n) := iln_e rfl (dt_q dX1_four_0_D 2 rfl) rfl
theorem eX1_four_5 {z0 : Int32} : WP (MX1_four g) Q (5, [l0, l1, l2, l3, l4, l5], .int z0 :: st, w, k, n) = (wt st ≤ 8 ∧ k + 1 ≤ 6 ∧ n + 6 ≤ 34 ∧ WP (MX1_needNumber g) (kx (fun v w' => WP (MX1_four g) Q (8, [l0, l1, l2, l3, l4, l5], v.toList ++ st, w', k + 1, n + 6)) (fun E w' => Q (.inr E) w')) (0, [some (.int z0)], [], w, 0, 0)) := csS0 (M := (MX1_four g)) (mc := (fun _ _ => 1)) (ms := (fun _ _ => 6)) (As := [.int z0]) (rest := st) (MX1_needNumber g) rfl rfl rfl (dt_q dX1_four_0_D 3 rfl) rfl rfl rfl rfl rfl rfl rfl
theorem eX1_four_8 : WP (MX1_four g) Q (8, [l0, l1, l2, some (.int a), l4, l5], st, w, k, n) = WP (MX1_four g) Q (9, [l0, l1, l2, some (.int a), l4, l5], .int a :: st, w, k, n) := iln_e rfl (dt_q dX1_four_0_D 4 rfl) rfl
theorem eX1_four_9 {z0 : Int32} : WP (MX1_four g) Q (9, [l0, l1, l2, l3, l4, l5], .int z0 :: st, w, k, n) = (wt st ≤ 8 ∧ k + 1 ≤ 6 ∧ n + 6 ≤ 34 ∧ WP (MX1_needNumber g) (kx (fun v w' => WP (MX1_four g) Q (12, [l0, l1, l2, l3, l4, l5], v.toList ++ st, w', k + 1, n + 6)) (fun E w' => Q (.inr E) w')) (0, [some (.int z0)], [], w, 0, 0)) := csS0 (M := (MX1_four g)) (mc := (fun _ _ => 1)) (ms := (fun _ _ => 6)) (As := [.int z0]) (rest := st) (MX1_needNumber g) rfl rfl rfl (dt_q dX1_four_0_D 5 rfl) rfl rfl rfl rfl rfl rfl rfl
theorem eX1_four_12 : WP (MX1_four g) Q (12, [l0, l1, l2, l3, some (.int a), l5], st, w, k, n) = WP (MX1_four g) Q (14, [l0, l1, l2, l3, some (.int a), l5], .int a :: st, w, k, n) := il_e rfl (dt_q dX1_four_0_D 6 rfl) rfl
theorem eX1_four_14 {z0 : Int32} : WP (MX1_four g) Q (14, [l0, l1, l2, l3, l4, l5], .int z0 :: st, w, k, n) = (wt st ≤ 8 ∧ k + 1 ≤ 6 ∧ n + 6 ≤ 34 ∧ WP (MX1_needNumber g) (kx (fun v w' => WP (MX1_four g) Q (17, [l0, l1, l2, l3, l4, l5], v.toList ++ st, w', k + 1, n + 6)) (fun E w' => Q (.inr E) w')) (0, [some (.int z0)], [], w, 0, 0)) := csS0 (M := (MX1_four g)) (mc := (fun _ _ => 1)) (ms := (fun _ _ => 6)) (As := [.int z0]) (rest := st) (MX1_needNumber g) rfl rfl rfl (dt_q dX1_four_0_D 7 rfl) rfl rfl rfl rfl rfl rfl rfl
theorem eX1_four_17 : WP (MX1_four g) Q (17, [l0, l1, l2, l3, l4, some (.int a)], st, w, k, n) = WP (MX1_four g) Q (19, [l0, l1, l2, l3, l4, some (.int a)], .int a :: st, w, k, n) := il_e rfl (dt_q dX1_four_0_D 8 rfl) rfl
theorem eX1_four_19 {z0 : Int32} : WP (MX1_four g) Q (19, [l0, l1, l2, l3, l4, l5], .int z0 :: st, w, k, n) = (wt st ≤ 8 ∧ k + 1 ≤ 6 ∧ n + 6 ≤ 34 ∧ WP (MX1_needNumber g) (kx (fun v w' => WP (MX1_four g) Q (22, [l0, l1, l2, l3, l4, l5], v.toList ++ st, w', k + 1, n + 6)) (fun E w' => Q (.inr E) w')) (0, [some (.int z0)], [], w, 0, 0)) := csS0 (M := (MX1_four g)) (mc := (fun _ _ => 1)) (ms := (fun _ _ => 6)) (As := [.int z0]) (rest := st) (MX1_needNumber g) rfl rfl rfl (dt_q dX1_four_0_D 9 rfl) rfl rfl rfl rfl rfl rfl rfl
theorem eX1_four_22 : WP (MX1_four g) Q (22, [some (.ref p), l1, l2, l3, l4, l5], st, w, k, n) = WP (MX1_four g) Q (23, [some (.ref p), l1, l2, l3, l4, l5], .ref p :: st, w, k, n) := alnR_e rfl (dt_q dX1_four_0_D 10 rfl) rfl
theorem eX1_four_22N : WP (MX1_four g) Q (22, [some .null, l1, l2, l3, l4, l5], st, w, k, n) = WP (MX1_four g) Q (23, [some .null, l1, l2, l3, l4, l5], .null :: st, w, k, n) := alnN_e rfl (dt_q dX1_four_0_D 10 rfl) rfl
theorem eX1_four_23 : WP (MX1_four g) Q (23, [l0, some (.int a), l2, l3, l4, l5], st, w, k, n) = WP (MX1_four g) Q (24, [l0, some (.int a), l2, l3, l4, l5], .int a :: st, w, k, n) := iln_e rfl (dt_q dX1_four_0_D 11 rfl) rfl
theorem eX1_four_24 : WP (MX1_four g) Q (24, [some (.ref p), l1, l2, l3, l4, l5], st, w, k, n) = WP (MX1_four g) Q (25, [some (.ref p), l1, l2, l3, l4, l5], .ref p :: st, w, k, n) := alnR_e rfl (dt_q dX1_four_0_D 12 rfl) rfl
theorem eX1_four_24N : WP (MX1_four g) Q (24, [some .null, l1, l2, l3, l4, l5], st, w, k, n) = WP (MX1_four g) Q (25, [some .null, l1, l2, l3, l4, l5], .null :: st, w, k, n) := alnN_e rfl (dt_q dX1_four_0_D 12 rfl) rfl
theorem eX1_four_25 : WP (MX1_four g) Q (25, [l0, l1, l2, l3, l4, l5], .ref p :: st, w, k, n) = go (rd g w p) 5 fun fs => ∃ v, fs[0]? = some v ∧ WP (MX1_four g) Q (28, [l0, l1, l2, l3, l4, l5], v :: st, w, k, n) := get_e rfl (dt_q dX1_four_0_D 13 rfl) rfl
theorem eX1_four_28 : WP (MX1_four g) Q (28, [l0, l1, some (.int a), l3, l4, l5], st, w, k, n) = WP (MX1_four g) Q (29, [l0, l1, some (.int a), l3, l4, l5], .int a :: st, w, k, n) := iln_e rfl (dt_q dX1_four_0_D 14 rfl) rfl
theorem eX1_four_29 : WP (MX1_four g) Q (29, [l0, l1, l2, l3, l4, l5], .int a :: .ref p :: st, w, k, n) = gl (rd g w p) 0 fun N f => vp_in a N ∧ WP (MX1_four g) Q (30, [l0, l1, l2, l3, l4, l5], .long (f a.toNatClampNeg) :: st, w, k, n) := laload_e rfl (dt_q dX1_four_0_D 15 rfl)
theorem eX1_four_30 : WP (MX1_four g) Q (30, [some (.ref p), l1, l2, l3, l4, l5], st, w, k, n) = WP (MX1_four g) Q (31, [some (.ref p), l1, l2, l3, l4, l5], .ref p :: st, w, k, n) := alnR_e rfl (dt_q dX1_four_0_D 16 rfl) rfl
theorem eX1_four_30N : WP (MX1_four g) Q (30, [some .null, l1, l2, l3, l4, l5], st, w, k, n) = WP (MX1_four g) Q (31, [some .null, l1, l2, l3, l4, l5], .null :: st, w, k, n) := alnN_e rfl (dt_q dX1_four_0_D 16 rfl) rfl
theorem eX1_four_31 : WP (MX1_four g) Q (31, [l0, l1, l2, l3, l4, l5], .ref p :: st, w, k, n) = go (rd g w p) 5 fun fs => ∃ v, fs[0]? = some v ∧ WP (MX1_four g) Q (34, [l0, l1, l2, l3, l4, l5], v :: st, w, k, n) := get_e rfl (dt_q dX1_four_0_D 17 rfl) rfl
theorem eX1_four_34 : WP (MX1_four g) Q (34, [l0, l1, l2, some (.int a), l4, l5], st, w, k, n) = WP (MX1_four g) Q (35, [l0, l1, l2, some (.int a), l4, l5], .int a :: st, w, k, n) := iln_e rfl (dt_q dX1_four_0_D 18 rfl) rfl
theorem eX1_four_35 : WP (MX1_four g) Q (35, [l0, l1, l2, l3, l4, l5], .int a :: .ref p :: st, w, k, n) = gl (rd g w p) 0 fun N f => vp_in a N ∧ WP (MX1_four g) Q (36, [l0, l1, l2, l3, l4, l5], .long (f a.toNatClampNeg) :: st, w, k, n) := laload_e rfl (dt_q dX1_four_0_D 19 rfl)
theorem eX1_four_36 : WP (MX1_four g) Q (36, [some (.ref p), l1, l2, l3, l4, l5], st, w, k, n) = WP (MX1_four g) Q (37, [some (.ref p), l1, l2, l3, l4, l5], .ref p :: st, w, k, n) := alnR_e rfl (dt_q dX1_four_0_D 20 rfl) rfl
theorem eX1_four_36N : WP (MX1_four g) Q (36, [some .null, l1, l2, l3, l4, l5], st, w, k, n) = WP (MX1_four g) Q (37, [some .null, l1, l2, l3, l4, l5], .null :: st, w, k, n) := alnN_e rfl (dt_q dX1_four_0_D 20 rfl) rfl
theorem eX1_four_37 : WP (MX1_four g) Q (37, [l0, l1, l2, l3, l4, l5], .ref p :: st, w, k, n) = go (rd g w p) 5 fun fs => ∃ v, fs[0]? = some v ∧ WP (MX1_four g) Q (40, [l0, l1, l2, l3, l4, l5], v :: st, w, k, n) := get_e rfl (dt_q dX1_four_0_D 21 rfl) rfl
theorem eX1_four_40 : WP (MX1_four g) Q (40, [l0, l1, l2, l3, some (.int a), l5], st, w, k, n) = WP (MX1_four g) Q (42, [l0, l1, l2, l3, some (.int a), l5], .int a :: st, w, k, n) := il_e rfl (dt_q dX1_four_0_D 22 rfl) rfl
theorem eX1_four_42 : WP (MX1_four g) Q (42, [l0, l1, l2, l3, l4, l5], .int a :: .ref p :: st, w, k, n) = gl (rd g w p) 0 fun N f => vp_in a N ∧ WP (MX1_four g) Q (43, [l0, l1, l2, l3, l4, l5], .long (f a.toNatClampNeg) :: st, w, k, n) := laload_e rfl (dt_q dX1_four_0_D 23 rfl)
theorem eX1_four_43 : WP (MX1_four g) Q (43, [some (.ref p), l1, l2, l3, l4, l5], st, w, k, n) = WP (MX1_four g) Q (44, [some (.ref p), l1, l2, l3, l4, l5], .ref p :: st, w, k, n) := alnR_e rfl (dt_q dX1_four_0_D 24 rfl) rfl
theorem eX1_four_43N : WP (MX1_four g) Q (43, [some .null, l1, l2, l3, l4, l5], st, w, k, n) = WP (MX1_four g) Q (44, [some .null, l1, l2, l3, l4, l5], .null :: st, w, k, n) := alnN_e rfl (dt_q dX1_four_0_D 24 rfl) rfl
theorem eX1_four_44 : WP (MX1_four g) Q (44, [l0, l1, l2, l3, l4, l5], .ref p :: st, w, k, n) = go (rd g w p) 5 fun fs => ∃ v, fs[0]? = some v ∧ WP (MX1_four g) Q (47, [l0, l1, l2, l3, l4, l5], v :: st, w, k, n) := get_e rfl (dt_q dX1_four_0_D 25 rfl) rfl
theorem eX1_four_47 : WP (MX1_four g) Q (47, [l0, l1, l2, l3, l4, some (.int a)], st, w, k, n) = WP (MX1_four g) Q (49, [l0, l1, l2, l3, l4, some (.int a)], .int a :: st, w, k, n) := il_e rfl (dt_q dX1_four_0_D 26 rfl) rfl
theorem eX1_four_49 : WP (MX1_four g) Q (49, [l0, l1, l2, l3, l4, l5], .int a :: .ref p :: st, w, k, n) = gl (rd g w p) 0 fun N f => vp_in a N ∧ WP (MX1_four g) Q (50, [l0, l1, l2, l3, l4, l5], .long (f a.toNatClampNeg) :: st, w, k, n) := laload_e rfl (dt_q dX1_four_0_D 27 rfl)
theorem eX1_four_50 {z0 : Int64} {z1 : Int64} {z2 : Int64} {z3 : Int64} : WP (MX1_four g) Q (50, [l0, l1, l2, l3, l4, l5], .long z3 :: .long z2 :: .long z1 :: .long z0 :: st, w, k, n) = (wt st ≤ 8 ∧ k + 1 ≤ 6 ∧ n + 4 ≤ 34 ∧ WP (MX0_ofFour g) (kx (fun v w' => WP (MX1_four g) Q (53, [l0, l1, l2, l3, l4, l5], v.toList ++ st, w', k + 1, n + 4)) (fun E w' => Q (.inr E) w')) (0, [some (.long z0), none, some (.long z1), none, some (.long z2), none, some (.long z3), none], [], w, 0, 0)) := csS0 (M := (MX1_four g)) (mc := (fun _ _ => 1)) (ms := (fun _ _ => 4)) (As := [.long z0, .long z1, .long z2, .long z3]) (rest := st) (MX0_ofFour g) rfl rfl rfl (dt_q dX1_four_0_D 28 rfl) rfl rfl rfl rfl rfl rfl rfl
theorem eX1_four_53R {z0 : Int32} {z1 : Nat} : WP (MX1_four g) Q (53, [l0, l1, l2, l3, l4, l5], .ref z1 :: .int z0 :: .ref p :: st, w, k, n) = (go (rd g w p) 5 (fun _ => True) ∧ wt st ≤ 8 ∧ k + 0 ≤ 6 ∧ n + 0 ≤ 34 ∧ WP (MX1_give g) (kx (fun v w' => WP (MX1_four g) Q (56, [l0, l1, l2, l3, l4, l5], v.toList ++ st, w', k + 0, n + 0)) (fun E w' => Q (.inr E) w')) (0, [some (.ref p), some (.int z0), some (.ref z1)], [], w, 0, 0)) := csV0 (M := (MX1_four g)) (mc := (fun _ _ => 0)) (ms := (fun _ _ => 0)) (As := [.int z0, .ref z1]) (rest := st) (MX1_give g) rfl rfl rfl (dt_q dX1_four_0_D 29 rfl) rfl rfl rfl rfl rfl rfl
theorem eX1_four_53N {z0 : Int32} : WP (MX1_four g) Q (53, [l0, l1, l2, l3, l4, l5], .null :: .int z0 :: .ref p :: st, w, k, n) = (go (rd g w p) 5 (fun _ => True) ∧ wt st ≤ 8 ∧ k + 0 ≤ 6 ∧ n + 0 ≤ 34 ∧ WP (MX1_give g) (kx (fun v w' => WP (MX1_four g) Q (56, [l0, l1, l2, l3, l4, l5], v.toList ++ st, w', k + 0, n + 0)) (fun E w' => Q (.inr E) w')) (0, [some (.ref p), some (.int z0), some .null], [], w, 0, 0)) := csV0 (M := (MX1_four g)) (mc := (fun _ _ => 0)) (ms := (fun _ _ => 0)) (As := [.int z0, .null]) (rest := st) (MX1_give g) rfl rfl rfl (dt_q dX1_four_0_D 29 rfl) rfl rfl rfl rfl rfl rfl
theorem eX1_four_56 : WP (MX1_four g) Q (56, [l0, l1, l2, l3, l4, l5], [.int a], w, k, n) = (k ≤ 6 ∧ n ≤ 34 ∧ Q (.inl (some (.int a))) w) := iretI_e rfl (dt_q dX1_four_0_D 30 rfl) rfl
end
theorem vMX1_four {l : Launch} (hl : l.stackTraces = false) (G : GT) : vM l G (MX1_four (gg G)) := vM_k RX1 cX1_four rfl rfl (all_c (vF_RX1_9) (all_n)) all_n all_n all_n all_n (fun h => absurd rfl h) (all_c (kc_78 hl wk_816) (all_c (kc_116 hl wk_353) (all_c (kc_82 hl (⟨"Rangecard", tm_1 (List.mem_of_getElem? (i := 89) rfl)⟩)) (all_c (kc_121 hl wk_820) (all_n))))) all_n all_n (fun h => absurd rfl h) rfl all_n
theorem okX1_four {l : Launch} (hl : l.stackTraces = false) {G : GT} : ∀ (args : List Value) (w : Hw) (S : Ot → Hw → Prop), spOf (MX1_four (gg G)) args w S → CX l G yX1_four (.code yX1_four cX1_four 6 (some .int)) 7 6 34 args w S := CX_sp (M := MX1_four (gg G)) (y := yX1_four) hl (by decide) rfl (vMX1_four hl G) (fun h => by cases h) rfl
abbrev dX1_twoSmall_0_T : List (Nat × Instr × Nat) := [(0, .iload_n 1, 1), (1, .invokestatic 79, 3), (4, .aload_n 0, 1), (5, .iload_n 1, 1), (6, .iload_n 2, 1), (7, .i2l, 1), (8, .iload_n 3, 1), (9, .i2l, 1), (10, .invokestatic 82, 3), (13, .invokevirtual 86, 3), (16, .ireturn, 1)]
theorem dX1_twoSmall_0_D : dtc cX1_twoSmall dX1_twoSmall_0_T = true := by decide +kernel
def MX1_twoSmall (g : RO) : MT := ((RX1, cX1_twoSmall, 4, 7, 2, 10, false, some .int), [], [], [], [], [], 0, [(79, 0, 1, 0, 6, (fun _ _ => 1), (fun _ _ => 6), yX1_needCard, spOf (MX1_needCard g)), (82, 1, 2, 0, 3, (fun _ _ => 1), (fun _ _ => 4), yX0_ofTwo, spOf (MX0_ofTwo g)), (86, 2, 3, 5, 2, (fun _ _ => 0), (fun _ _ => 0), yX1_give, spOf (MX1_give g))], [], [], 0, [], [], g)
section
variable {g : RO} {Q : Ot → Hw → Prop} {st : List Value} {w : Hw} {k n p q : Nat} {a b : Int32} {x y : Int64} {u v : Value} {l0 l1 l2 l3 : Option Value}
theorem eX1_twoSmall_0 : WP (MX1_twoSmall g) Q (0, [l0, some (.int a), l2, l3], st, w, k, n) = WP (MX1_twoSmall g) Q (1, [l0, some (.int a), l2, l3], .int a :: st, w, k, n) := iln_e rfl (dt_q dX1_twoSmall_0_D 0 rfl) rfl
theorem eX1_twoSmall_1 {z0 : Int32} : WP (MX1_twoSmall g) Q (1, [l0, l1, l2, l3], .int z0 :: st, w, k, n) = (wt st ≤ 8 ∧ k + 1 ≤ 2 ∧ n + 6 ≤ 10 ∧ WP (MX1_needCard g) (kx (fun v w' => WP (MX1_twoSmall g) Q (4, [l0, l1, l2, l3], v.toList ++ st, w', k + 1, n + 6)) (fun E w' => Q (.inr E) w')) (0, [some (.int z0)], [], w, 0, 0)) := csS0 (M := (MX1_twoSmall g)) (mc := (fun _ _ => 1)) (ms := (fun _ _ => 6)) (As := [.int z0]) (rest := st) (MX1_needCard g) rfl rfl rfl (dt_q dX1_twoSmall_0_D 1 rfl) rfl rfl rfl rfl rfl rfl rfl
theorem eX1_twoSmall_4 : WP (MX1_twoSmall g) Q (4, [some (.ref p), l1, l2, l3], st, w, k, n) = WP (MX1_twoSmall g) Q (5, [some (.ref p), l1, l2, l3], .ref p :: st, w, k, n) := alnR_e rfl (dt_q dX1_twoSmall_0_D 2 rfl) rfl
theorem eX1_twoSmall_4N : WP (MX1_twoSmall g) Q (4, [some .null, l1, l2, l3], st, w, k, n) = WP (MX1_twoSmall g) Q (5, [some .null, l1, l2, l3], .null :: st, w, k, n) := alnN_e rfl (dt_q dX1_twoSmall_0_D 2 rfl) rfl
theorem eX1_twoSmall_5 : WP (MX1_twoSmall g) Q (5, [l0, some (.int a), l2, l3], st, w, k, n) = WP (MX1_twoSmall g) Q (6, [l0, some (.int a), l2, l3], .int a :: st, w, k, n) := iln_e rfl (dt_q dX1_twoSmall_0_D 3 rfl) rfl
theorem eX1_twoSmall_6 : WP (MX1_twoSmall g) Q (6, [l0, l1, some (.int a), l3], st, w, k, n) = WP (MX1_twoSmall g) Q (7, [l0, l1, some (.int a), l3], .int a :: st, w, k, n) := iln_e rfl (dt_q dX1_twoSmall_0_D 4 rfl) rfl
theorem eX1_twoSmall_7 : WP (MX1_twoSmall g) Q (7, [l0, l1, l2, l3], .int a :: st, w, k, n) = WP (MX1_twoSmall g) Q (8, [l0, l1, l2, l3], .long a.toInt64 :: st, w, k, n) := i2l_e rfl (dt_q dX1_twoSmall_0_D 5 rfl)
theorem eX1_twoSmall_8 : WP (MX1_twoSmall g) Q (8, [l0, l1, l2, some (.int a)], st, w, k, n) = WP (MX1_twoSmall g) Q (9, [l0, l1, l2, some (.int a)], .int a :: st, w, k, n) := iln_e rfl (dt_q dX1_twoSmall_0_D 6 rfl) rfl
theorem eX1_twoSmall_9 : WP (MX1_twoSmall g) Q (9, [l0, l1, l2, l3], .int a :: st, w, k, n) = WP (MX1_twoSmall g) Q (10, [l0, l1, l2, l3], .long a.toInt64 :: st, w, k, n) := i2l_e rfl (dt_q dX1_twoSmall_0_D 7 rfl)
theorem eX1_twoSmall_10 {z0 : Int64} {z1 : Int64} : WP (MX1_twoSmall g) Q (10, [l0, l1, l2, l3], .long z1 :: .long z0 :: st, w, k, n) = (wt st ≤ 8 ∧ k + 1 ≤ 2 ∧ n + 4 ≤ 10 ∧ WP (MX0_ofTwo g) (kx (fun v w' => WP (MX1_twoSmall g) Q (13, [l0, l1, l2, l3], v.toList ++ st, w', k + 1, n + 4)) (fun E w' => Q (.inr E) w')) (0, [some (.long z0), none, some (.long z1), none], [], w, 0, 0)) := csS0 (M := (MX1_twoSmall g)) (mc := (fun _ _ => 1)) (ms := (fun _ _ => 4)) (As := [.long z0, .long z1]) (rest := st) (MX0_ofTwo g) rfl rfl rfl (dt_q dX1_twoSmall_0_D 8 rfl) rfl rfl rfl rfl rfl rfl rfl
theorem eX1_twoSmall_13R {z0 : Int32} {z1 : Nat} : WP (MX1_twoSmall g) Q (13, [l0, l1, l2, l3], .ref z1 :: .int z0 :: .ref p :: st, w, k, n) = (go (rd g w p) 5 (fun _ => True) ∧ wt st ≤ 8 ∧ k + 0 ≤ 2 ∧ n + 0 ≤ 10 ∧ WP (MX1_give g) (kx (fun v w' => WP (MX1_twoSmall g) Q (16, [l0, l1, l2, l3], v.toList ++ st, w', k + 0, n + 0)) (fun E w' => Q (.inr E) w')) (0, [some (.ref p), some (.int z0), some (.ref z1)], [], w, 0, 0)) := csV0 (M := (MX1_twoSmall g)) (mc := (fun _ _ => 0)) (ms := (fun _ _ => 0)) (As := [.int z0, .ref z1]) (rest := st) (MX1_give g) rfl rfl rfl (dt_q dX1_twoSmall_0_D 9 rfl) rfl rfl rfl rfl rfl rfl
theorem eX1_twoSmall_13N {z0 : Int32} : WP (MX1_twoSmall g) Q (13, [l0, l1, l2, l3], .null :: .int z0 :: .ref p :: st, w, k, n) = (go (rd g w p) 5 (fun _ => True) ∧ wt st ≤ 8 ∧ k + 0 ≤ 2 ∧ n + 0 ≤ 10 ∧ WP (MX1_give g) (kx (fun v w' => WP (MX1_twoSmall g) Q (16, [l0, l1, l2, l3], v.toList ++ st, w', k + 0, n + 0)) (fun E w' => Q (.inr E) w')) (0, [some (.ref p), some (.int z0), some .null], [], w, 0, 0)) := csV0 (M := (MX1_twoSmall g)) (mc := (fun _ _ => 0)) (ms := (fun _ _ => 0)) (As := [.int z0, .null]) (rest := st) (MX1_give g) rfl rfl rfl (dt_q dX1_twoSmall_0_D 9 rfl) rfl rfl rfl rfl rfl rfl
theorem eX1_twoSmall_16 : WP (MX1_twoSmall g) Q (16, [l0, l1, l2, l3], [.int a], w, k, n) = (k ≤ 2 ∧ n ≤ 10 ∧ Q (.inl (some (.int a))) w) := iretI_e rfl (dt_q dX1_twoSmall_0_D 10 rfl) rfl
end
theorem vMX1_twoSmall {l : Launch} (hl : l.stackTraces = false) (G : GT) : vM l G (MX1_twoSmall (gg G)) := vM_k RX1 cX1_twoSmall rfl rfl all_n all_n all_n all_n all_n (fun h => absurd rfl h) (all_c (kc_78 hl wk_816) (all_c (kc_83 hl (⟨"Rangecard", tm_1 (List.mem_of_getElem? (i := 134) rfl)⟩)) (all_c (kc_121 hl wk_820) (all_n)))) all_n all_n (fun h => absurd rfl h) rfl all_n
theorem okX1_twoSmall {l : Launch} (hl : l.stackTraces = false) {G : GT} : ∀ (args : List Value) (w : Hw) (S : Ot → Hw → Prop), spOf (MX1_twoSmall (gg G)) args w S → CX l G yX1_twoSmall (.code yX1_twoSmall cX1_twoSmall 4 (some .int)) 7 2 10 args w S := CX_sp (M := MX1_twoSmall (gg G)) (y := yX1_twoSmall) hl (by decide) rfl (vMX1_twoSmall hl G) (fun h => by cases h) rfl
abbrev dX1_threeSmall_0_T : List (Nat × Instr × Nat) := [(0, .iload_n 1, 1), (1, .invokestatic 79, 3), (4, .aload_n 0, 1), (5, .iload_n 1, 1), (6, .iload_n 2, 1), (7, .i2l, 1), (8, .iload_n 3, 1), (9, .i2l, 1), (10, .iload 4, 2), (12, .i2l, 1), (13, .invokestatic 90, 3), (16, .invokevirtual 86, 3), (19, .ireturn, 1)]
theorem dX1_threeSmall_0_D : dtc cX1_threeSmall dX1_threeSmall_0_T = true := by decide +kernel
def MX1_threeSmall (g : RO) : MT := ((RX1, cX1_threeSmall, 5, 7, 2, 10, false, some .int), [], [], [], [], [], 0, [(79, 0, 1, 0, 6, (fun _ _ => 1), (fun _ _ => 6), yX1_needCard, spOf (MX1_needCard g)), (90, 1, 3, 0, 3, (fun _ _ => 1), (fun _ _ => 4), yX0_ofThree, spOf (MX0_ofThree g)), (86, 2, 3, 5, 2, (fun _ _ => 0), (fun _ _ => 0), yX1_give, spOf (MX1_give g))], [], [], 0, [], [], g)
section
variable {g : RO} {Q : Ot → Hw → Prop} {st : List Value} {w : Hw} {k n p q : Nat} {a b : Int32} {x y : Int64} {u v : Value} {l0 l1 l2 l3 l4 : Option Value}
theorem eX1_threeSmall_0 : WP (MX1_threeSmall g) Q (0, [l0, some (.int a), l2, l3, l4], st, w, k, n) = WP (MX1_threeSmall g) Q (1, [l0, some (.int a), l2, l3, l4], .int a :: st, w, k, n) := iln_e rfl (dt_q dX1_threeSmall_0_D 0 rfl) rfl
theorem eX1_threeSmall_1 {z0 : Int32} : WP (MX1_threeSmall g) Q (1, [l0, l1, l2, l3, l4], .int z0 :: st, w, k, n) = (wt st ≤ 8 ∧ k + 1 ≤ 2 ∧ n + 6 ≤ 10 ∧ WP (MX1_needCard g) (kx (fun v w' => WP (MX1_threeSmall g) Q (4, [l0, l1, l2, l3, l4], v.toList ++ st, w', k + 1, n + 6)) (fun E w' => Q (.inr E) w')) (0, [some (.int z0)], [], w, 0, 0)) := csS0 (M := (MX1_threeSmall g)) (mc := (fun _ _ => 1)) (ms := (fun _ _ => 6)) (As := [.int z0]) (rest := st) (MX1_needCard g) rfl rfl rfl (dt_q dX1_threeSmall_0_D 1 rfl) rfl rfl rfl rfl rfl rfl rfl
theorem eX1_threeSmall_4 : WP (MX1_threeSmall g) Q (4, [some (.ref p), l1, l2, l3, l4], st, w, k, n) = WP (MX1_threeSmall g) Q (5, [some (.ref p), l1, l2, l3, l4], .ref p :: st, w, k, n) := alnR_e rfl (dt_q dX1_threeSmall_0_D 2 rfl) rfl
theorem eX1_threeSmall_4N : WP (MX1_threeSmall g) Q (4, [some .null, l1, l2, l3, l4], st, w, k, n) = WP (MX1_threeSmall g) Q (5, [some .null, l1, l2, l3, l4], .null :: st, w, k, n) := alnN_e rfl (dt_q dX1_threeSmall_0_D 2 rfl) rfl
theorem eX1_threeSmall_5 : WP (MX1_threeSmall g) Q (5, [l0, some (.int a), l2, l3, l4], st, w, k, n) = WP (MX1_threeSmall g) Q (6, [l0, some (.int a), l2, l3, l4], .int a :: st, w, k, n) := iln_e rfl (dt_q dX1_threeSmall_0_D 3 rfl) rfl
theorem eX1_threeSmall_6 : WP (MX1_threeSmall g) Q (6, [l0, l1, some (.int a), l3, l4], st, w, k, n) = WP (MX1_threeSmall g) Q (7, [l0, l1, some (.int a), l3, l4], .int a :: st, w, k, n) := iln_e rfl (dt_q dX1_threeSmall_0_D 4 rfl) rfl
theorem eX1_threeSmall_7 : WP (MX1_threeSmall g) Q (7, [l0, l1, l2, l3, l4], .int a :: st, w, k, n) = WP (MX1_threeSmall g) Q (8, [l0, l1, l2, l3, l4], .long a.toInt64 :: st, w, k, n) := i2l_e rfl (dt_q dX1_threeSmall_0_D 5 rfl)
theorem eX1_threeSmall_8 : WP (MX1_threeSmall g) Q (8, [l0, l1, l2, some (.int a), l4], st, w, k, n) = WP (MX1_threeSmall g) Q (9, [l0, l1, l2, some (.int a), l4], .int a :: st, w, k, n) := iln_e rfl (dt_q dX1_threeSmall_0_D 6 rfl) rfl
theorem eX1_threeSmall_9 : WP (MX1_threeSmall g) Q (9, [l0, l1, l2, l3, l4], .int a :: st, w, k, n) = WP (MX1_threeSmall g) Q (10, [l0, l1, l2, l3, l4], .long a.toInt64 :: st, w, k, n) := i2l_e rfl (dt_q dX1_threeSmall_0_D 7 rfl)
theorem eX1_threeSmall_10 : WP (MX1_threeSmall g) Q (10, [l0, l1, l2, l3, some (.int a)], st, w, k, n) = WP (MX1_threeSmall g) Q (12, [l0, l1, l2, l3, some (.int a)], .int a :: st, w, k, n) := il_e rfl (dt_q dX1_threeSmall_0_D 8 rfl) rfl
theorem eX1_threeSmall_12 : WP (MX1_threeSmall g) Q (12, [l0, l1, l2, l3, l4], .int a :: st, w, k, n) = WP (MX1_threeSmall g) Q (13, [l0, l1, l2, l3, l4], .long a.toInt64 :: st, w, k, n) := i2l_e rfl (dt_q dX1_threeSmall_0_D 9 rfl)
theorem eX1_threeSmall_13 {z0 : Int64} {z1 : Int64} {z2 : Int64} : WP (MX1_threeSmall g) Q (13, [l0, l1, l2, l3, l4], .long z2 :: .long z1 :: .long z0 :: st, w, k, n) = (wt st ≤ 8 ∧ k + 1 ≤ 2 ∧ n + 4 ≤ 10 ∧ WP (MX0_ofThree g) (kx (fun v w' => WP (MX1_threeSmall g) Q (16, [l0, l1, l2, l3, l4], v.toList ++ st, w', k + 1, n + 4)) (fun E w' => Q (.inr E) w')) (0, [some (.long z0), none, some (.long z1), none, some (.long z2), none], [], w, 0, 0)) := csS0 (M := (MX1_threeSmall g)) (mc := (fun _ _ => 1)) (ms := (fun _ _ => 4)) (As := [.long z0, .long z1, .long z2]) (rest := st) (MX0_ofThree g) rfl rfl rfl (dt_q dX1_threeSmall_0_D 10 rfl) rfl rfl rfl rfl rfl rfl rfl
theorem eX1_threeSmall_16R {z0 : Int32} {z1 : Nat} : WP (MX1_threeSmall g) Q (16, [l0, l1, l2, l3, l4], .ref z1 :: .int z0 :: .ref p :: st, w, k, n) = (go (rd g w p) 5 (fun _ => True) ∧ wt st ≤ 8 ∧ k + 0 ≤ 2 ∧ n + 0 ≤ 10 ∧ WP (MX1_give g) (kx (fun v w' => WP (MX1_threeSmall g) Q (19, [l0, l1, l2, l3, l4], v.toList ++ st, w', k + 0, n + 0)) (fun E w' => Q (.inr E) w')) (0, [some (.ref p), some (.int z0), some (.ref z1)], [], w, 0, 0)) := csV0 (M := (MX1_threeSmall g)) (mc := (fun _ _ => 0)) (ms := (fun _ _ => 0)) (As := [.int z0, .ref z1]) (rest := st) (MX1_give g) rfl rfl rfl (dt_q dX1_threeSmall_0_D 11 rfl) rfl rfl rfl rfl rfl rfl
theorem eX1_threeSmall_16N {z0 : Int32} : WP (MX1_threeSmall g) Q (16, [l0, l1, l2, l3, l4], .null :: .int z0 :: .ref p :: st, w, k, n) = (go (rd g w p) 5 (fun _ => True) ∧ wt st ≤ 8 ∧ k + 0 ≤ 2 ∧ n + 0 ≤ 10 ∧ WP (MX1_give g) (kx (fun v w' => WP (MX1_threeSmall g) Q (19, [l0, l1, l2, l3, l4], v.toList ++ st, w', k + 0, n + 0)) (fun E w' => Q (.inr E) w')) (0, [some (.ref p), some (.int z0), some .null], [], w, 0, 0)) := csV0 (M := (MX1_threeSmall g)) (mc := (fun _ _ => 0)) (ms := (fun _ _ => 0)) (As := [.int z0, .null]) (rest := st) (MX1_give g) rfl rfl rfl (dt_q dX1_threeSmall_0_D 11 rfl) rfl rfl rfl rfl rfl rfl
theorem eX1_threeSmall_19 : WP (MX1_threeSmall g) Q (19, [l0, l1, l2, l3, l4], [.int a], w, k, n) = (k ≤ 2 ∧ n ≤ 10 ∧ Q (.inl (some (.int a))) w) := iretI_e rfl (dt_q dX1_threeSmall_0_D 12 rfl) rfl
end
theorem vMX1_threeSmall {l : Launch} (hl : l.stackTraces = false) (G : GT) : vM l G (MX1_threeSmall (gg G)) := vM_k RX1 cX1_threeSmall rfl rfl all_n all_n all_n all_n all_n (fun h => absurd rfl h) (all_c (kc_78 hl wk_816) (all_c (kc_122 hl (⟨"Rangecard", tm_4 (List.mem_of_getElem? (i := 57) rfl)⟩)) (all_c (kc_121 hl wk_820) (all_n)))) all_n all_n (fun h => absurd rfl h) rfl all_n
theorem okX1_threeSmall {l : Launch} (hl : l.stackTraces = false) {G : GT} : ∀ (args : List Value) (w : Hw) (S : Ot → Hw → Prop), spOf (MX1_threeSmall (gg G)) args w S → CX l G yX1_threeSmall (.code yX1_threeSmall cX1_threeSmall 5 (some .int)) 7 2 10 args w S := CX_sp (M := MX1_threeSmall (gg G)) (y := yX1_threeSmall) hl (by decide) rfl (vMX1_threeSmall hl G) (fun h => by cases h) rfl
abbrev dX1_fourSmall_0_T : List (Nat × Instr × Nat) := [(0, .iload_n 1, 1), (1, .invokestatic 79, 3), (4, .aload_n 0, 1), (5, .iload_n 1, 1), (6, .iload_n 2, 1), (7, .i2l, 1), (8, .iload_n 3, 1), (9, .i2l, 1), (10, .iload 4, 2), (12, .i2l, 1), (13, .iload 5, 2), (15, .i2l, 1), (16, .invokestatic 94, 3), (19, .invokevirtual 86, 3), (22, .ireturn, 1)]
theorem dX1_fourSmall_0_D : dtc cX1_fourSmall dX1_fourSmall_0_T = true := by decide +kernel
def MX1_fourSmall (g : RO) : MT := ((RX1, cX1_fourSmall, 6, 7, 2, 10, false, some .int), [], [], [], [], [], 0, [(79, 0, 1, 0, 6, (fun _ _ => 1), (fun _ _ => 6), yX1_needCard, spOf (MX1_needCard g)), (94, 1, 4, 0, 2, (fun _ _ => 1), (fun _ _ => 4), yX0_ofFour, spOf (MX0_ofFour g)), (86, 2, 3, 5, 2, (fun _ _ => 0), (fun _ _ => 0), yX1_give, spOf (MX1_give g))], [], [], 0, [], [], g)
section
variable {g : RO} {Q : Ot → Hw → Prop} {st : List Value} {w : Hw} {k n p q : Nat} {a b : Int32} {x y : Int64} {u v : Value} {l0 l1 l2 l3 l4 l5 : Option Value}
theorem eX1_fourSmall_0 : WP (MX1_fourSmall g) Q (0, [l0, some (.int a), l2, l3, l4, l5], st, w, k, n) = WP (MX1_fourSmall g) Q (1, [l0, some (.int a), l2, l3, l4, l5], .int a :: st, w, k, n) := iln_e rfl (dt_q dX1_fourSmall_0_D 0 rfl) rfl
theorem eX1_fourSmall_1 {z0 : Int32} : WP (MX1_fourSmall g) Q (1, [l0, l1, l2, l3, l4, l5], .int z0 :: st, w, k, n) = (wt st ≤ 8 ∧ k + 1 ≤ 2 ∧ n + 6 ≤ 10 ∧ WP (MX1_needCard g) (kx (fun v w' => WP (MX1_fourSmall g) Q (4, [l0, l1, l2, l3, l4, l5], v.toList ++ st, w', k + 1, n + 6)) (fun E w' => Q (.inr E) w')) (0, [some (.int z0)], [], w, 0, 0)) := csS0 (M := (MX1_fourSmall g)) (mc := (fun _ _ => 1)) (ms := (fun _ _ => 6)) (As := [.int z0]) (rest := st) (MX1_needCard g) rfl rfl rfl (dt_q dX1_fourSmall_0_D 1 rfl) rfl rfl rfl rfl rfl rfl rfl
theorem eX1_fourSmall_4 : WP (MX1_fourSmall g) Q (4, [some (.ref p), l1, l2, l3, l4, l5], st, w, k, n) = WP (MX1_fourSmall g) Q (5, [some (.ref p), l1, l2, l3, l4, l5], .ref p :: st, w, k, n) := alnR_e rfl (dt_q dX1_fourSmall_0_D 2 rfl) rfl
theorem eX1_fourSmall_4N : WP (MX1_fourSmall g) Q (4, [some .null, l1, l2, l3, l4, l5], st, w, k, n) = WP (MX1_fourSmall g) Q (5, [some .null, l1, l2, l3, l4, l5], .null :: st, w, k, n) := alnN_e rfl (dt_q dX1_fourSmall_0_D 2 rfl) rfl
theorem eX1_fourSmall_5 : WP (MX1_fourSmall g) Q (5, [l0, some (.int a), l2, l3, l4, l5], st, w, k, n) = WP (MX1_fourSmall g) Q (6, [l0, some (.int a), l2, l3, l4, l5], .int a :: st, w, k, n) := iln_e rfl (dt_q dX1_fourSmall_0_D 3 rfl) rfl
theorem eX1_fourSmall_6 : WP (MX1_fourSmall g) Q (6, [l0, l1, some (.int a), l3, l4, l5], st, w, k, n) = WP (MX1_fourSmall g) Q (7, [l0, l1, some (.int a), l3, l4, l5], .int a :: st, w, k, n) := iln_e rfl (dt_q dX1_fourSmall_0_D 4 rfl) rfl
theorem eX1_fourSmall_7 : WP (MX1_fourSmall g) Q (7, [l0, l1, l2, l3, l4, l5], .int a :: st, w, k, n) = WP (MX1_fourSmall g) Q (8, [l0, l1, l2, l3, l4, l5], .long a.toInt64 :: st, w, k, n) := i2l_e rfl (dt_q dX1_fourSmall_0_D 5 rfl)
theorem eX1_fourSmall_8 : WP (MX1_fourSmall g) Q (8, [l0, l1, l2, some (.int a), l4, l5], st, w, k, n) = WP (MX1_fourSmall g) Q (9, [l0, l1, l2, some (.int a), l4, l5], .int a :: st, w, k, n) := iln_e rfl (dt_q dX1_fourSmall_0_D 6 rfl) rfl
theorem eX1_fourSmall_9 : WP (MX1_fourSmall g) Q (9, [l0, l1, l2, l3, l4, l5], .int a :: st, w, k, n) = WP (MX1_fourSmall g) Q (10, [l0, l1, l2, l3, l4, l5], .long a.toInt64 :: st, w, k, n) := i2l_e rfl (dt_q dX1_fourSmall_0_D 7 rfl)
theorem eX1_fourSmall_10 : WP (MX1_fourSmall g) Q (10, [l0, l1, l2, l3, some (.int a), l5], st, w, k, n) = WP (MX1_fourSmall g) Q (12, [l0, l1, l2, l3, some (.int a), l5], .int a :: st, w, k, n) := il_e rfl (dt_q dX1_fourSmall_0_D 8 rfl) rfl
theorem eX1_fourSmall_12 : WP (MX1_fourSmall g) Q (12, [l0, l1, l2, l3, l4, l5], .int a :: st, w, k, n) = WP (MX1_fourSmall g) Q (13, [l0, l1, l2, l3, l4, l5], .long a.toInt64 :: st, w, k, n) := i2l_e rfl (dt_q dX1_fourSmall_0_D 9 rfl)
theorem eX1_fourSmall_13 : WP (MX1_fourSmall g) Q (13, [l0, l1, l2, l3, l4, some (.int a)], st, w, k, n) = WP (MX1_fourSmall g) Q (15, [l0, l1, l2, l3, l4, some (.int a)], .int a :: st, w, k, n) := il_e rfl (dt_q dX1_fourSmall_0_D 10 rfl) rfl
theorem eX1_fourSmall_15 : WP (MX1_fourSmall g) Q (15, [l0, l1, l2, l3, l4, l5], .int a :: st, w, k, n) = WP (MX1_fourSmall g) Q (16, [l0, l1, l2, l3, l4, l5], .long a.toInt64 :: st, w, k, n) := i2l_e rfl (dt_q dX1_fourSmall_0_D 11 rfl)
theorem eX1_fourSmall_16 {z0 : Int64} {z1 : Int64} {z2 : Int64} {z3 : Int64} : WP (MX1_fourSmall g) Q (16, [l0, l1, l2, l3, l4, l5], .long z3 :: .long z2 :: .long z1 :: .long z0 :: st, w, k, n) = (wt st ≤ 8 ∧ k + 1 ≤ 2 ∧ n + 4 ≤ 10 ∧ WP (MX0_ofFour g) (kx (fun v w' => WP (MX1_fourSmall g) Q (19, [l0, l1, l2, l3, l4, l5], v.toList ++ st, w', k + 1, n + 4)) (fun E w' => Q (.inr E) w')) (0, [some (.long z0), none, some (.long z1), none, some (.long z2), none, some (.long z3), none], [], w, 0, 0)) := csS0 (M := (MX1_fourSmall g)) (mc := (fun _ _ => 1)) (ms := (fun _ _ => 4)) (As := [.long z0, .long z1, .long z2, .long z3]) (rest := st) (MX0_ofFour g) rfl rfl rfl (dt_q dX1_fourSmall_0_D 12 rfl) rfl rfl rfl rfl rfl rfl rfl
theorem eX1_fourSmall_19R {z0 : Int32} {z1 : Nat} : WP (MX1_fourSmall g) Q (19, [l0, l1, l2, l3, l4, l5], .ref z1 :: .int z0 :: .ref p :: st, w, k, n) = (go (rd g w p) 5 (fun _ => True) ∧ wt st ≤ 8 ∧ k + 0 ≤ 2 ∧ n + 0 ≤ 10 ∧ WP (MX1_give g) (kx (fun v w' => WP (MX1_fourSmall g) Q (22, [l0, l1, l2, l3, l4, l5], v.toList ++ st, w', k + 0, n + 0)) (fun E w' => Q (.inr E) w')) (0, [some (.ref p), some (.int z0), some (.ref z1)], [], w, 0, 0)) := csV0 (M := (MX1_fourSmall g)) (mc := (fun _ _ => 0)) (ms := (fun _ _ => 0)) (As := [.int z0, .ref z1]) (rest := st) (MX1_give g) rfl rfl rfl (dt_q dX1_fourSmall_0_D 13 rfl) rfl rfl rfl rfl rfl rfl
theorem eX1_fourSmall_19N {z0 : Int32} : WP (MX1_fourSmall g) Q (19, [l0, l1, l2, l3, l4, l5], .null :: .int z0 :: .ref p :: st, w, k, n) = (go (rd g w p) 5 (fun _ => True) ∧ wt st ≤ 8 ∧ k + 0 ≤ 2 ∧ n + 0 ≤ 10 ∧ WP (MX1_give g) (kx (fun v w' => WP (MX1_fourSmall g) Q (22, [l0, l1, l2, l3, l4, l5], v.toList ++ st, w', k + 0, n + 0)) (fun E w' => Q (.inr E) w')) (0, [some (.ref p), some (.int z0), some .null], [], w, 0, 0)) := csV0 (M := (MX1_fourSmall g)) (mc := (fun _ _ => 0)) (ms := (fun _ _ => 0)) (As := [.int z0, .null]) (rest := st) (MX1_give g) rfl rfl rfl (dt_q dX1_fourSmall_0_D 13 rfl) rfl rfl rfl rfl rfl rfl
theorem eX1_fourSmall_22 : WP (MX1_fourSmall g) Q (22, [l0, l1, l2, l3, l4, l5], [.int a], w, k, n) = (k ≤ 2 ∧ n ≤ 10 ∧ Q (.inl (some (.int a))) w) := iretI_e rfl (dt_q dX1_fourSmall_0_D 14 rfl) rfl
end
theorem vMX1_fourSmall {l : Launch} (hl : l.stackTraces = false) (G : GT) : vM l G (MX1_fourSmall (gg G)) := vM_k RX1 cX1_fourSmall rfl rfl all_n all_n all_n all_n all_n (fun h => absurd rfl h) (all_c (kc_78 hl wk_816) (all_c (kc_82 hl (⟨"Rangecard", tm_1 (List.mem_of_getElem? (i := 89) rfl)⟩)) (all_c (kc_121 hl wk_820) (all_n)))) all_n all_n (fun h => absurd rfl h) rfl all_n
theorem okX1_fourSmall {l : Launch} (hl : l.stackTraces = false) {G : GT} : ∀ (args : List Value) (w : Hw) (S : Ot → Hw → Prop), spOf (MX1_fourSmall (gg G)) args w S → CX l G yX1_fourSmall (.code yX1_fourSmall cX1_fourSmall 6 (some .int)) 7 2 10 args w S := CX_sp (M := MX1_fourSmall (gg G)) (y := yX1_fourSmall) hl (by decide) rfl (vMX1_fourSmall hl G) (fun h => by cases h) rfl
abbrev dX1_again_0_T : List (Nat × Instr × Nat) := [(0, .iload_n 1, 1), (1, .invokestatic 79, 3), (4, .aload_n 0, 1), (5, .iload_n 2, 1), (6, .invokevirtual 98, 3), (9, .astore_n 3, 1), (10, .aload_n 0, 1), (11, .iload_n 1, 1), (12, .aload_n 3, 1), (13, .invokestatic 102, 3), (16, .invokevirtual 86, 3), (19, .pop, 1), (20, .aload_n 3, 1), (21, .invokestatic 106, 3), (24, .ireturn, 1)]
theorem dX1_again_0_D : dtc cX1_again dX1_again_0_T = true := by decide +kernel
def MX1_again (g : RO) : MT := ((RX1, cX1_again, 4, 8, 4, 22, false, some .int), [], [], [], [], [], 0, [(79, 0, 1, 0, 6, (fun _ _ => 1), (fun _ _ => 6), yX1_needCard, spOf (MX1_needCard g)), (98, 2, 2, 5, 7, (fun _ _ => 2), (fun _ _ => 12), yX1_rangeOf, spOf (MX1_rangeOf g)), (102, 0, 1, 0, 3, (fun _ _ => 1), (fun _ _ => 4), yX1_copyOf, spOf (MX1_copyOf g)), (86, 2, 3, 5, 2, (fun _ _ => 0), (fun _ _ => 0), yX1_give, spOf (MX1_give g)), (106, 0, 1, 0, 2, (fun _ _ => 0), (fun _ _ => 0), yX1_smallEnds, spOf (MX1_smallEnds g))], [], [], 0, [], [], g)
section
variable {g : RO} {Q : Ot → Hw → Prop} {st : List Value} {w : Hw} {k n p q : Nat} {a b : Int32} {x y : Int64} {u v : Value} {l0 l1 l2 l3 : Option Value}
theorem eX1_again_0 : WP (MX1_again g) Q (0, [l0, some (.int a), l2, l3], st, w, k, n) = WP (MX1_again g) Q (1, [l0, some (.int a), l2, l3], .int a :: st, w, k, n) := iln_e rfl (dt_q dX1_again_0_D 0 rfl) rfl
theorem eX1_again_1 {z0 : Int32} : WP (MX1_again g) Q (1, [l0, l1, l2, l3], .int z0 :: st, w, k, n) = (wt st ≤ 8 ∧ k + 1 ≤ 4 ∧ n + 6 ≤ 22 ∧ WP (MX1_needCard g) (kx (fun v w' => WP (MX1_again g) Q (4, [l0, l1, l2, l3], v.toList ++ st, w', k + 1, n + 6)) (fun E w' => Q (.inr E) w')) (0, [some (.int z0)], [], w, 0, 0)) := csS0 (M := (MX1_again g)) (mc := (fun _ _ => 1)) (ms := (fun _ _ => 6)) (As := [.int z0]) (rest := st) (MX1_needCard g) rfl rfl rfl (dt_q dX1_again_0_D 1 rfl) rfl rfl rfl rfl rfl rfl rfl
theorem eX1_again_4 : WP (MX1_again g) Q (4, [some (.ref p), l1, l2, l3], st, w, k, n) = WP (MX1_again g) Q (5, [some (.ref p), l1, l2, l3], .ref p :: st, w, k, n) := alnR_e rfl (dt_q dX1_again_0_D 2 rfl) rfl
theorem eX1_again_4N : WP (MX1_again g) Q (4, [some .null, l1, l2, l3], st, w, k, n) = WP (MX1_again g) Q (5, [some .null, l1, l2, l3], .null :: st, w, k, n) := alnN_e rfl (dt_q dX1_again_0_D 2 rfl) rfl
theorem eX1_again_5 : WP (MX1_again g) Q (5, [l0, l1, some (.int a), l3], st, w, k, n) = WP (MX1_again g) Q (6, [l0, l1, some (.int a), l3], .int a :: st, w, k, n) := iln_e rfl (dt_q dX1_again_0_D 3 rfl) rfl
theorem eX1_again_6 {z0 : Int32} : WP (MX1_again g) Q (6, [l0, l1, l2, l3], .int z0 :: .ref p :: st, w, k, n) = (go (rd g w p) 5 (fun _ => True) ∧ wt st ≤ 8 ∧ k + 2 ≤ 4 ∧ n + 12 ≤ 22 ∧ WP (MX1_rangeOf g) (kx (fun v w' => WP (MX1_again g) Q (9, [l0, l1, l2, l3], v.toList ++ st, w', k + 2, n + 12)) (fun E w' => Q (.inr E) w')) (0, [some (.ref p), some (.int z0), none], [], w, 0, 0)) := csV0 (M := (MX1_again g)) (mc := (fun _ _ => 2)) (ms := (fun _ _ => 12)) (As := [.int z0]) (rest := st) (MX1_rangeOf g) rfl rfl rfl (dt_q dX1_again_0_D 4 rfl) rfl rfl rfl rfl rfl rfl
theorem eX1_again_9 : WP (MX1_again g) Q (9, [l0, l1, l2, l3], .ref p :: st, w, k, n) = WP (MX1_again g) Q (10, [l0, l1, nl l2, some (.ref p)], st, w, k, n) := asnR_e rfl (dt_q dX1_again_0_D 5 rfl) rfl rfl
theorem eX1_again_9N : WP (MX1_again g) Q (9, [l0, l1, l2, l3], .null :: st, w, k, n) = WP (MX1_again g) Q (10, [l0, l1, nl l2, some (.null)], st, w, k, n) := asnN_e rfl (dt_q dX1_again_0_D 5 rfl) rfl rfl
theorem eX1_again_10 : WP (MX1_again g) Q (10, [some (.ref p), l1, l2, l3], st, w, k, n) = WP (MX1_again g) Q (11, [some (.ref p), l1, l2, l3], .ref p :: st, w, k, n) := alnR_e rfl (dt_q dX1_again_0_D 6 rfl) rfl
theorem eX1_again_10N : WP (MX1_again g) Q (10, [some .null, l1, l2, l3], st, w, k, n) = WP (MX1_again g) Q (11, [some .null, l1, l2, l3], .null :: st, w, k, n) := alnN_e rfl (dt_q dX1_again_0_D 6 rfl) rfl
theorem eX1_again_11 : WP (MX1_again g) Q (11, [l0, some (.int a), l2, l3], st, w, k, n) = WP (MX1_again g) Q (12, [l0, some (.int a), l2, l3], .int a :: st, w, k, n) := iln_e rfl (dt_q dX1_again_0_D 7 rfl) rfl
theorem eX1_again_12 : WP (MX1_again g) Q (12, [l0, l1, l2, some (.ref p)], st, w, k, n) = WP (MX1_again g) Q (13, [l0, l1, l2, some (.ref p)], .ref p :: st, w, k, n) := alnR_e rfl (dt_q dX1_again_0_D 8 rfl) rfl
theorem eX1_again_12N : WP (MX1_again g) Q (12, [l0, l1, l2, some .null], st, w, k, n) = WP (MX1_again g) Q (13, [l0, l1, l2, some .null], .null :: st, w, k, n) := alnN_e rfl (dt_q dX1_again_0_D 8 rfl) rfl
theorem eX1_again_13R {z0 : Nat} : WP (MX1_again g) Q (13, [l0, l1, l2, l3], .ref z0 :: st, w, k, n) = (wt st ≤ 8 ∧ k + 1 ≤ 4 ∧ n + 4 ≤ 22 ∧ WP (MX1_copyOf g) (kx (fun v w' => WP (MX1_again g) Q (16, [l0, l1, l2, l3], v.toList ++ st, w', k + 1, n + 4)) (fun E w' => Q (.inr E) w')) (0, [some (.ref z0)], [], w, 0, 0)) := csS0 (M := (MX1_again g)) (mc := (fun _ _ => 1)) (ms := (fun _ _ => 4)) (As := [.ref z0]) (rest := st) (MX1_copyOf g) rfl rfl rfl (dt_q dX1_again_0_D 9 rfl) rfl rfl rfl rfl rfl rfl rfl
theorem eX1_again_13N  : WP (MX1_again g) Q (13, [l0, l1, l2, l3], .null :: st, w, k, n) = (wt st ≤ 8 ∧ k + 1 ≤ 4 ∧ n + 4 ≤ 22 ∧ WP (MX1_copyOf g) (kx (fun v w' => WP (MX1_again g) Q (16, [l0, l1, l2, l3], v.toList ++ st, w', k + 1, n + 4)) (fun E w' => Q (.inr E) w')) (0, [some .null], [], w, 0, 0)) := csS0 (M := (MX1_again g)) (mc := (fun _ _ => 1)) (ms := (fun _ _ => 4)) (As := [.null]) (rest := st) (MX1_copyOf g) rfl rfl rfl (dt_q dX1_again_0_D 9 rfl) rfl rfl rfl rfl rfl rfl rfl
theorem eX1_again_16R {z0 : Int32} {z1 : Nat} : WP (MX1_again g) Q (16, [l0, l1, l2, l3], .ref z1 :: .int z0 :: .ref p :: st, w, k, n) = (go (rd g w p) 5 (fun _ => True) ∧ wt st ≤ 8 ∧ k + 0 ≤ 4 ∧ n + 0 ≤ 22 ∧ WP (MX1_give g) (kx (fun v w' => WP (MX1_again g) Q (19, [l0, l1, l2, l3], v.toList ++ st, w', k + 0, n + 0)) (fun E w' => Q (.inr E) w')) (0, [some (.ref p), some (.int z0), some (.ref z1)], [], w, 0, 0)) := csV0 (M := (MX1_again g)) (mc := (fun _ _ => 0)) (ms := (fun _ _ => 0)) (As := [.int z0, .ref z1]) (rest := st) (MX1_give g) rfl rfl rfl (dt_q dX1_again_0_D 10 rfl) rfl rfl rfl rfl rfl rfl
theorem eX1_again_16N {z0 : Int32} : WP (MX1_again g) Q (16, [l0, l1, l2, l3], .null :: .int z0 :: .ref p :: st, w, k, n) = (go (rd g w p) 5 (fun _ => True) ∧ wt st ≤ 8 ∧ k + 0 ≤ 4 ∧ n + 0 ≤ 22 ∧ WP (MX1_give g) (kx (fun v w' => WP (MX1_again g) Q (19, [l0, l1, l2, l3], v.toList ++ st, w', k + 0, n + 0)) (fun E w' => Q (.inr E) w')) (0, [some (.ref p), some (.int z0), some .null], [], w, 0, 0)) := csV0 (M := (MX1_again g)) (mc := (fun _ _ => 0)) (ms := (fun _ _ => 0)) (As := [.int z0, .null]) (rest := st) (MX1_give g) rfl rfl rfl (dt_q dX1_again_0_D 10 rfl) rfl rfl rfl rfl rfl rfl
theorem eX1_again_19 : WP (MX1_again g) Q (19, [l0, l1, l2, l3], .int a :: st, w, k, n) = WP (MX1_again g) Q (20, [l0, l1, l2, l3], st, w, k, n) := popI_e rfl (dt_q dX1_again_0_D 11 rfl)
theorem eX1_again_19R : WP (MX1_again g) Q (19, [l0, l1, l2, l3], .ref p :: st, w, k, n) = WP (MX1_again g) Q (20, [l0, l1, l2, l3], st, w, k, n) := popR_e rfl (dt_q dX1_again_0_D 11 rfl)
theorem eX1_again_19N : WP (MX1_again g) Q (19, [l0, l1, l2, l3], .null :: st, w, k, n) = WP (MX1_again g) Q (20, [l0, l1, l2, l3], st, w, k, n) := popN_e rfl (dt_q dX1_again_0_D 11 rfl)
theorem eX1_again_20 : WP (MX1_again g) Q (20, [l0, l1, l2, some (.ref p)], st, w, k, n) = WP (MX1_again g) Q (21, [l0, l1, l2, some (.ref p)], .ref p :: st, w, k, n) := alnR_e rfl (dt_q dX1_again_0_D 12 rfl) rfl
theorem eX1_again_20N : WP (MX1_again g) Q (20, [l0, l1, l2, some .null], st, w, k, n) = WP (MX1_again g) Q (21, [l0, l1, l2, some .null], .null :: st, w, k, n) := alnN_e rfl (dt_q dX1_again_0_D 12 rfl) rfl
theorem eX1_again_21R {z0 : Nat} : WP (MX1_again g) Q (21, [l0, l1, l2, l3], .ref z0 :: st, w, k, n) = (wt st ≤ 8 ∧ k + 0 ≤ 4 ∧ n + 0 ≤ 22 ∧ WP (MX1_smallEnds g) (kx (fun v w' => WP (MX1_again g) Q (24, [l0, l1, l2, l3], v.toList ++ st, w', k + 0, n + 0)) (fun E w' => Q (.inr E) w')) (0, [some (.ref z0), none, none], [], w, 0, 0)) := csS0 (M := (MX1_again g)) (mc := (fun _ _ => 0)) (ms := (fun _ _ => 0)) (As := [.ref z0]) (rest := st) (MX1_smallEnds g) rfl rfl rfl (dt_q dX1_again_0_D 13 rfl) rfl rfl rfl rfl rfl rfl rfl
theorem eX1_again_21N  : WP (MX1_again g) Q (21, [l0, l1, l2, l3], .null :: st, w, k, n) = (wt st ≤ 8 ∧ k + 0 ≤ 4 ∧ n + 0 ≤ 22 ∧ WP (MX1_smallEnds g) (kx (fun v w' => WP (MX1_again g) Q (24, [l0, l1, l2, l3], v.toList ++ st, w', k + 0, n + 0)) (fun E w' => Q (.inr E) w')) (0, [some .null, none, none], [], w, 0, 0)) := csS0 (M := (MX1_again g)) (mc := (fun _ _ => 0)) (ms := (fun _ _ => 0)) (As := [.null]) (rest := st) (MX1_smallEnds g) rfl rfl rfl (dt_q dX1_again_0_D 13 rfl) rfl rfl rfl rfl rfl rfl rfl
theorem eX1_again_24 : WP (MX1_again g) Q (24, [l0, l1, l2, l3], [.int a], w, k, n) = (k ≤ 4 ∧ n ≤ 22 ∧ Q (.inl (some (.int a))) w) := iretI_e rfl (dt_q dX1_again_0_D 14 rfl) rfl
end
theorem wk_877 : (.code yX1_rangeOf cX1_rangeOf 3 (some (.object "Rangecard$Range")) : Jvm.Cond) ∈ WS := WS_t4 99 rfl rfl
theorem wk_874 : (.methodLink RX1 98 yX1_rangeOf : Jvm.Cond) ∈ WS := WS_t4 96 rfl rfl
theorem wk_876 : (.instanceMethod yX1_rangeOf : Jvm.Cond) ∈ WS := WS_t4 98 rfl rfl
theorem wk_31 : (.selects RX1 yX1_rangeOf yX1_rangeOf : Jvm.Cond) ∈ WS := WS_at 31 (by decide +kernel) rfl
theorem wk_896 : (.code yX1_smallEnds cX1_smallEnds 3 (some .int) : Jvm.Cond) ∈ WS := WS_t4 118 rfl rfl
theorem wk_894 : (.methodLink RX1 106 yX1_smallEnds : Jvm.Cond) ∈ WS := WS_t4 116 rfl rfl
theorem wk_895 : (.static yX1_smallEnds : Jvm.Cond) ∈ WS := WS_t4 117 rfl rfl
theorem kc_123 {l : Launch} (hl : l.stackTraces = false) {G : GT} {own : String} {i : Nat} (hw : Jvm.Cond.methodLink own i yX1_rangeOf ∈ WS) : vCal l G own i (2, 2, 5, 7, (fun _ _ => 2), (fun _ _ => 12), yX1_rangeOf, spOf (MX1_rangeOf (gg G))) := ⟨cX1_rangeOf, 3, some (.object "Rangecard$Range"), fun y hy => by subst hy; exact ⟨by decide, ⟨_, wk_877, okX1_rangeOf hl, Or.inl ⟨Nat.ne_of_beq_eq_false rfl, rfl⟩⟩, wk_59, nc14, ⟨(by decide +kernel : (parseMethodDescriptor yX1_rangeOf.desc).map (fun d => d.parameters.length + 1) = some 2), hw, wk_876, wk_31, (RX1, TX1, 7), rfl, rfl⟩⟩⟩
theorem kc_124 {l : Launch} (hl : l.stackTraces = false) {G : GT} {own : String} {i : Nat} (hw : Jvm.Cond.methodLink own i yX1_smallEnds ∈ WS) : vCal l G own i (0, 1, 0, 2, (fun _ _ => 0), (fun _ _ => 0), yX1_smallEnds, spOf (MX1_smallEnds (gg G))) := ⟨cX1_smallEnds, 3, some .int, fun y hy => by subst hy; exact ⟨by decide, ⟨_, wk_896, okX1_smallEnds hl, Or.inl ⟨Nat.ne_of_beq_eq_false rfl, rfl⟩⟩, wk_59, nc14, ⟨(by decide +kernel : (parseMethodDescriptor yX1_smallEnds.desc).map (fun d => d.parameters.length) = some 1), hw, wk_895⟩⟩⟩
theorem vMX1_again {l : Launch} (hl : l.stackTraces = false) (G : GT) : vM l G (MX1_again (gg G)) := vM_k RX1 cX1_again rfl rfl all_n all_n all_n all_n all_n (fun h => absurd rfl h) (all_c (kc_78 hl wk_816) (all_c (kc_123 hl wk_874) (all_c (kc_98 hl wk_144) (all_c (kc_121 hl wk_820) (all_c (kc_124 hl wk_894) (all_n)))))) all_n all_n (fun h => absurd rfl h) rfl all_n
theorem okX1_again {l : Launch} (hl : l.stackTraces = false) {G : GT} : ∀ (args : List Value) (w : Hw) (S : Ot → Hw → Prop), spOf (MX1_again (gg G)) args w S → CX l G yX1_again (.code yX1_again cX1_again 4 (some .int)) 8 4 22 args w S := CX_sp (M := MX1_again (gg G)) (y := yX1_again) hl (by decide) rfl (vMX1_again hl G) (fun h => by cases h) rfl
end
/-! 66.class12.lean.txt -/
section
abbrev dX1_same_0_T : List (Nat × Instr × Nat) := [(0, .iload_n 1, 1), (1, .invokestatic 79, 3), (4, .aload_n 0, 1), (5, .iload_n 2, 1), (6, .invokevirtual 98, 3), (9, .astore_n 3, 1), (10, .aload_n 0, 1), (11, .getfield 15, 3), (14, .iload_n 1, 1), (15, .aaload, 1), (16, .astore 4, 2), (18, .aload_n 0, 1), (19, .getfield 15, 3), (22, .iload_n 1, 1), (23, .aload_n 3, 1), (24, .aastore, 1), (25, .aload 4, 2), (27, .ifnonnull 5, 3), (30, .iconst (-1), 1), (31, .ireturn, 1), (32, .aload 4, 2), (34, .aload_n 3, 1), (35, .invokevirtual 110, 3), (38, .ifCond .eq 7, 3), (41, .iconst 1, 1), (42, .goto 4, 3), (45, .iconst 0, 1), (46, .ireturn, 1)]
theorem dX1_same_0_D : dtc cX1_same dX1_same_0_T = true := by decide +kernel
def MX1_same (g : RO) : MT := ((RX1, cX1_same, 5, 8, 3, 18, false, some .int), [(15, 5, 1)], [], [], [], [], 0, [(79, 0, 1, 0, 6, (fun _ _ => 1), (fun _ _ => 6), yX1_needCard, spOf (MX1_needCard g)), (98, 2, 2, 5, 7, (fun _ _ => 2), (fun _ _ => 12), yX1_rangeOf, spOf (MX1_rangeOf g)), (110, 3, 2, 4, 1, (fun _ _ => 0), (fun _ _ => 0), yX0_matches, spOf (MX0_matches g))], [], [], 0, [], [], g)
section
variable {g : RO} {Q : Ot → Hw → Prop} {st : List Value} {w : Hw} {k n p q : Nat} {a b : Int32} {x y : Int64} {u v : Value} {l0 l1 l2 l3 l4 : Option Value}
theorem eX1_same_0 : WP (MX1_same g) Q (0, [l0, some (.int a), l2, l3, l4], st, w, k, n) = WP (MX1_same g) Q (1, [l0, some (.int a), l2, l3, l4], .int a :: st, w, k, n) := iln_e rfl (dt_q dX1_same_0_D 0 rfl) rfl
theorem eX1_same_1 {z0 : Int32} : WP (MX1_same g) Q (1, [l0, l1, l2, l3, l4], .int z0 :: st, w, k, n) = (wt st ≤ 8 ∧ k + 1 ≤ 3 ∧ n + 6 ≤ 18 ∧ WP (MX1_needCard g) (kx (fun v w' => WP (MX1_same g) Q (4, [l0, l1, l2, l3, l4], v.toList ++ st, w', k + 1, n + 6)) (fun E w' => Q (.inr E) w')) (0, [some (.int z0)], [], w, 0, 0)) := csS0 (M := (MX1_same g)) (mc := (fun _ _ => 1)) (ms := (fun _ _ => 6)) (As := [.int z0]) (rest := st) (MX1_needCard g) rfl rfl rfl (dt_q dX1_same_0_D 1 rfl) rfl rfl rfl rfl rfl rfl rfl
theorem eX1_same_4 : WP (MX1_same g) Q (4, [some (.ref p), l1, l2, l3, l4], st, w, k, n) = WP (MX1_same g) Q (5, [some (.ref p), l1, l2, l3, l4], .ref p :: st, w, k, n) := alnR_e rfl (dt_q dX1_same_0_D 2 rfl) rfl
theorem eX1_same_4N : WP (MX1_same g) Q (4, [some .null, l1, l2, l3, l4], st, w, k, n) = WP (MX1_same g) Q (5, [some .null, l1, l2, l3, l4], .null :: st, w, k, n) := alnN_e rfl (dt_q dX1_same_0_D 2 rfl) rfl
theorem eX1_same_5 : WP (MX1_same g) Q (5, [l0, l1, some (.int a), l3, l4], st, w, k, n) = WP (MX1_same g) Q (6, [l0, l1, some (.int a), l3, l4], .int a :: st, w, k, n) := iln_e rfl (dt_q dX1_same_0_D 3 rfl) rfl
theorem eX1_same_6 {z0 : Int32} : WP (MX1_same g) Q (6, [l0, l1, l2, l3, l4], .int z0 :: .ref p :: st, w, k, n) = (go (rd g w p) 5 (fun _ => True) ∧ wt st ≤ 8 ∧ k + 2 ≤ 3 ∧ n + 12 ≤ 18 ∧ WP (MX1_rangeOf g) (kx (fun v w' => WP (MX1_same g) Q (9, [l0, l1, l2, l3, l4], v.toList ++ st, w', k + 2, n + 12)) (fun E w' => Q (.inr E) w')) (0, [some (.ref p), some (.int z0), none], [], w, 0, 0)) := csV0 (M := (MX1_same g)) (mc := (fun _ _ => 2)) (ms := (fun _ _ => 12)) (As := [.int z0]) (rest := st) (MX1_rangeOf g) rfl rfl rfl (dt_q dX1_same_0_D 4 rfl) rfl rfl rfl rfl rfl rfl
theorem eX1_same_9 : WP (MX1_same g) Q (9, [l0, l1, l2, l3, l4], .ref p :: st, w, k, n) = WP (MX1_same g) Q (10, [l0, l1, nl l2, some (.ref p), l4], st, w, k, n) := asnR_e rfl (dt_q dX1_same_0_D 5 rfl) rfl rfl
theorem eX1_same_9N : WP (MX1_same g) Q (9, [l0, l1, l2, l3, l4], .null :: st, w, k, n) = WP (MX1_same g) Q (10, [l0, l1, nl l2, some (.null), l4], st, w, k, n) := asnN_e rfl (dt_q dX1_same_0_D 5 rfl) rfl rfl
theorem eX1_same_10 : WP (MX1_same g) Q (10, [some (.ref p), l1, l2, l3, l4], st, w, k, n) = WP (MX1_same g) Q (11, [some (.ref p), l1, l2, l3, l4], .ref p :: st, w, k, n) := alnR_e rfl (dt_q dX1_same_0_D 6 rfl) rfl
theorem eX1_same_10N : WP (MX1_same g) Q (10, [some .null, l1, l2, l3, l4], st, w, k, n) = WP (MX1_same g) Q (11, [some .null, l1, l2, l3, l4], .null :: st, w, k, n) := alnN_e rfl (dt_q dX1_same_0_D 6 rfl) rfl
theorem eX1_same_11 : WP (MX1_same g) Q (11, [l0, l1, l2, l3, l4], .ref p :: st, w, k, n) = go (rd g w p) 5 fun fs => ∃ v, fs[1]? = some v ∧ WP (MX1_same g) Q (14, [l0, l1, l2, l3, l4], v :: st, w, k, n) := get_e rfl (dt_q dX1_same_0_D 7 rfl) rfl
theorem eX1_same_14 : WP (MX1_same g) Q (14, [l0, some (.int a), l2, l3, l4], st, w, k, n) = WP (MX1_same g) Q (15, [l0, some (.int a), l2, l3, l4], .int a :: st, w, k, n) := iln_e rfl (dt_q dX1_same_0_D 8 rfl) rfl
theorem eX1_same_15 : WP (MX1_same g) Q (15, [l0, l1, l2, l3, l4], .int a :: .ref p :: st, w, k, n) = gq (rd g w p) fun t N f => (t = 4 ∨ t = 5) ∧ vp_in a N ∧ WP (MX1_same g) Q (16, [l0, l1, l2, l3, l4], va_rf (f a.toNatClampNeg) :: st, w, k, n) := aaload_e rfl (dt_q dX1_same_0_D 9 rfl)
theorem eX1_same_16 : WP (MX1_same g) Q (16, [l0, l1, l2, l3, l4], .ref p :: st, w, k, n) = WP (MX1_same g) Q (18, [l0, l1, l2, nl l3, some (.ref p)], st, w, k, n) := asR_e rfl (dt_q dX1_same_0_D 10 rfl) rfl rfl
theorem eX1_same_16N : WP (MX1_same g) Q (16, [l0, l1, l2, l3, l4], .null :: st, w, k, n) = WP (MX1_same g) Q (18, [l0, l1, l2, nl l3, some (.null)], st, w, k, n) := asN_e rfl (dt_q dX1_same_0_D 10 rfl) rfl rfl
theorem eX1_same_18 : WP (MX1_same g) Q (18, [some (.ref p), l1, l2, l3, l4], st, w, k, n) = WP (MX1_same g) Q (19, [some (.ref p), l1, l2, l3, l4], .ref p :: st, w, k, n) := alnR_e rfl (dt_q dX1_same_0_D 11 rfl) rfl
theorem eX1_same_18N : WP (MX1_same g) Q (18, [some .null, l1, l2, l3, l4], st, w, k, n) = WP (MX1_same g) Q (19, [some .null, l1, l2, l3, l4], .null :: st, w, k, n) := alnN_e rfl (dt_q dX1_same_0_D 11 rfl) rfl
theorem eX1_same_19 : WP (MX1_same g) Q (19, [l0, l1, l2, l3, l4], .ref p :: st, w, k, n) = go (rd g w p) 5 fun fs => ∃ v, fs[1]? = some v ∧ WP (MX1_same g) Q (22, [l0, l1, l2, l3, l4], v :: st, w, k, n) := get_e rfl (dt_q dX1_same_0_D 12 rfl) rfl
theorem eX1_same_22 : WP (MX1_same g) Q (22, [l0, some (.int a), l2, l3, l4], st, w, k, n) = WP (MX1_same g) Q (23, [l0, some (.int a), l2, l3, l4], .int a :: st, w, k, n) := iln_e rfl (dt_q dX1_same_0_D 13 rfl) rfl
theorem eX1_same_23 : WP (MX1_same g) Q (23, [l0, l1, l2, some (.ref p), l4], st, w, k, n) = WP (MX1_same g) Q (24, [l0, l1, l2, some (.ref p), l4], .ref p :: st, w, k, n) := alnR_e rfl (dt_q dX1_same_0_D 14 rfl) rfl
theorem eX1_same_23N : WP (MX1_same g) Q (23, [l0, l1, l2, some .null, l4], st, w, k, n) = WP (MX1_same g) Q (24, [l0, l1, l2, some .null, l4], .null :: st, w, k, n) := alnN_e rfl (dt_q dX1_same_0_D 14 rfl) rfl
theorem eX1_same_24N : WP (MX1_same g) Q (24, [l0, l1, l2, l3, l4], .null :: .int a :: .ref p :: st, w, k, n) = gq (w p) fun t N f => vp_in a N ∧ (t = 4 ∨ t = 5) ∧ WP (MX1_same g) Q (25, [l0, l1, l2, l3, l4], st, upw w p (.inl (t, N, .inr (.inr (.inr (.inr (va_up f a.toNatClampNeg none)))))), k, n) := aastN_e rfl (dt_q dX1_same_0_D 15 rfl)
theorem eX1_same_24R : WP (MX1_same g) Q (24, [l0, l1, l2, l3, l4], .ref q :: .int a :: .ref p :: st, w, k, n) = gq (w p) fun t N f => vp_in a N ∧ ((t = 4 ∧ go (w q) 4 fun _ => True) ∨ (t = 5 ∧ gl (w q) 0 fun _ _ => True)) ∧ WP (MX1_same g) Q (25, [l0, l1, l2, l3, l4], st, upw w p (.inl (t, N, .inr (.inr (.inr (.inr (va_up f a.toNatClampNeg (some q))))))), k, n) := aastR_e rfl (dt_q dX1_same_0_D 15 rfl)
theorem eX1_same_25 : WP (MX1_same g) Q (25, [l0, l1, l2, l3, some (.ref p)], st, w, k, n) = WP (MX1_same g) Q (27, [l0, l1, l2, l3, some (.ref p)], .ref p :: st, w, k, n) := alR_e rfl (dt_q dX1_same_0_D 16 rfl) rfl
theorem eX1_same_25N : WP (MX1_same g) Q (25, [l0, l1, l2, l3, some .null], st, w, k, n) = WP (MX1_same g) Q (27, [l0, l1, l2, l3, some .null], .null :: st, w, k, n) := alN_e rfl (dt_q dX1_same_0_D 16 rfl) rfl
theorem eX1_same_27R : WP (MX1_same g) Q (27, [l0, l1, l2, l3, l4], .ref p :: st, w, k, n) = WP (MX1_same g) Q (32, [l0, l1, l2, l3, l4], st, w, k, n) := ifnonnullR_e rfl (dt_q dX1_same_0_D 17 rfl) (tgt := 32) (by decide)
theorem eX1_same_27N : WP (MX1_same g) Q (27, [l0, l1, l2, l3, l4], .null :: st, w, k, n) = WP (MX1_same g) Q (30, [l0, l1, l2, l3, l4], st, w, k, n) := ifnonnullN_e rfl (dt_q dX1_same_0_D 17 rfl) (tgt := 32) (by decide)
theorem eX1_same_30 : WP (MX1_same g) Q (30, [l0, l1, l2, l3, l4], st, w, k, n) = WP (MX1_same g) Q (31, [l0, l1, l2, l3, l4], .int (-1) :: st, w, k, n) := ic_m rfl (dt_q dX1_same_0_D 18 rfl)
theorem eX1_same_31 : WP (MX1_same g) Q (31, [l0, l1, l2, l3, l4], [.int a], w, k, n) = (k ≤ 3 ∧ n ≤ 18 ∧ Q (.inl (some (.int a))) w) := iretI_e rfl (dt_q dX1_same_0_D 19 rfl) rfl
theorem eX1_same_32 : WP (MX1_same g) Q (32, [l0, l1, l2, l3, some (.ref p)], st, w, k, n) = WP (MX1_same g) Q (34, [l0, l1, l2, l3, some (.ref p)], .ref p :: st, w, k, n) := alR_e rfl (dt_q dX1_same_0_D 20 rfl) rfl
theorem eX1_same_32N : WP (MX1_same g) Q (32, [l0, l1, l2, l3, some .null], st, w, k, n) = WP (MX1_same g) Q (34, [l0, l1, l2, l3, some .null], .null :: st, w, k, n) := alN_e rfl (dt_q dX1_same_0_D 20 rfl) rfl
theorem eX1_same_34 : WP (MX1_same g) Q (34, [l0, l1, l2, some (.ref p), l4], st, w, k, n) = WP (MX1_same g) Q (35, [l0, l1, l2, some (.ref p), l4], .ref p :: st, w, k, n) := alnR_e rfl (dt_q dX1_same_0_D 21 rfl) rfl
theorem eX1_same_34N : WP (MX1_same g) Q (34, [l0, l1, l2, some .null, l4], st, w, k, n) = WP (MX1_same g) Q (35, [l0, l1, l2, some .null, l4], .null :: st, w, k, n) := alnN_e rfl (dt_q dX1_same_0_D 21 rfl) rfl
theorem eX1_same_35R {z0 : Nat} : WP (MX1_same g) Q (35, [l0, l1, l2, l3, l4], .ref z0 :: .ref p :: st, w, k, n) = (go (rd g w p) 4 (fun _ => True) ∧ wt st ≤ 8 ∧ k + 0 ≤ 3 ∧ n + 0 ≤ 18 ∧ WP (MX0_matches g) (kx (fun v w' => WP (MX1_same g) Q (38, [l0, l1, l2, l3, l4], v.toList ++ st, w', k + 0, n + 0)) (fun E w' => Q (.inr E) w')) (0, [some (.ref p), some (.ref z0)], [], w, 0, 0)) := csV0 (M := (MX1_same g)) (mc := (fun _ _ => 0)) (ms := (fun _ _ => 0)) (As := [.ref z0]) (rest := st) (MX0_matches g) rfl rfl rfl (dt_q dX1_same_0_D 22 rfl) rfl rfl rfl rfl rfl rfl
theorem eX1_same_35N  : WP (MX1_same g) Q (35, [l0, l1, l2, l3, l4], .null :: .ref p :: st, w, k, n) = (go (rd g w p) 4 (fun _ => True) ∧ wt st ≤ 8 ∧ k + 0 ≤ 3 ∧ n + 0 ≤ 18 ∧ WP (MX0_matches g) (kx (fun v w' => WP (MX1_same g) Q (38, [l0, l1, l2, l3, l4], v.toList ++ st, w', k + 0, n + 0)) (fun E w' => Q (.inr E) w')) (0, [some (.ref p), some .null], [], w, 0, 0)) := csV0 (M := (MX1_same g)) (mc := (fun _ _ => 0)) (ms := (fun _ _ => 0)) (As := [.null]) (rest := st) (MX0_matches g) rfl rfl rfl (dt_q dX1_same_0_D 22 rfl) rfl rfl rfl rfl rfl rfl
theorem eX1_same_38 : WP (MX1_same g) Q (38, [l0, l1, l2, l3, l4], .int a :: st, w, k, n) = if a = 0 then WP (MX1_same g) Q (45, [l0, l1, l2, l3, l4], st, w, k, n) else WP (MX1_same g) Q (41, [l0, l1, l2, l3, l4], st, w, k, n) := ifc_e (a = 0) rfl (dt_q dX1_same_0_D 23 rfl) rfl (by decide)
theorem eX1_same_41 : WP (MX1_same g) Q (41, [l0, l1, l2, l3, l4], st, w, k, n) = WP (MX1_same g) Q (42, [l0, l1, l2, l3, l4], .int 1 :: st, w, k, n) := ic_1 rfl (dt_q dX1_same_0_D 24 rfl)
theorem eX1_same_42 : WP (MX1_same g) Q (42, [l0, l1, l2, l3, l4], st, w, k, n) = WP (MX1_same g) Q (46, [l0, l1, l2, l3, l4], st, w, k, n) := goto_e rfl (dt_q dX1_same_0_D 25 rfl) (by decide)
theorem eX1_same_45 : WP (MX1_same g) Q (45, [l0, l1, l2, l3, l4], st, w, k, n) = WP (MX1_same g) Q (46, [l0, l1, l2, l3, l4], .int 0 :: st, w, k, n) := ic_0 rfl (dt_q dX1_same_0_D 26 rfl)
theorem eX1_same_46 : WP (MX1_same g) Q (46, [l0, l1, l2, l3, l4], [.int a], w, k, n) = (k ≤ 3 ∧ n ≤ 18 ∧ Q (.inl (some (.int a))) w) := iretI_e rfl (dt_q dX1_same_0_D 27 rfl) rfl
end
theorem vMX1_same {l : Launch} (hl : l.stackTraces = false) (G : GT) : vM l G (MX1_same (gg G)) := vM_k RX1 cX1_same rfl rfl (all_c (vF_RX1_15) (all_n)) all_n all_n all_n all_n (fun h => absurd rfl h) (all_c (kc_78 hl wk_816) (all_c (kc_123 hl wk_874) (all_c (kc_93 hl (⟨"Rangecard", tm_1 (List.mem_of_getElem? (i := 118) rfl)⟩)) (all_n)))) all_n all_n (fun h => absurd rfl h) rfl all_n
theorem okX1_same {l : Launch} (hl : l.stackTraces = false) {G : GT} : ∀ (args : List Value) (w : Hw) (S : Ot → Hw → Prop), spOf (MX1_same (gg G)) args w S → CX l G yX1_same (.code yX1_same cX1_same 5 (some .int)) 8 3 18 args w S := CX_sp (M := MX1_same (gg G)) (y := yX1_same) hl (by decide) rfl (vMX1_same hl G) (fun h => by cases h) rfl
abbrev dX1_outer_0_T : List (Nat × Instr × Nat) := [(0, .iload_n 1, 1), (1, .invokestatic 79, 3), (4, .aload_n 0, 1), (5, .iload_n 2, 1), (6, .invokevirtual 98, 3), (9, .astore_n 3, 1), (10, .aload_n 3, 1), (11, .invokestatic 114, 3), (14, .astore 4, 2), (16, .aload_n 0, 1), (17, .iload_n 1, 1), (18, .aload 4, 2), (20, .invokevirtual 86, 3), (23, .pop, 1), (24, .aload_n 3, 1), (25, .aload 4, 2), (27, .invokevirtual 110, 3), (30, .ifCond .eq 7, 3), (33, .iconst 1, 1), (34, .goto 4, 3), (37, .iconst 0, 1), (38, .ireturn, 1)]
theorem dX1_outer_0_D : dtc cX1_outer dX1_outer_0_T = true := by decide +kernel
def MX1_outer (g : RO) : MT := ((RX1, cX1_outer, 5, 8, 4, 22, false, some .int), [], [], [], [], [], 0, [(79, 0, 1, 0, 6, (fun _ _ => 1), (fun _ _ => 6), yX1_needCard, spOf (MX1_needCard g)), (98, 2, 2, 5, 7, (fun _ _ => 2), (fun _ _ => 12), yX1_rangeOf, spOf (MX1_rangeOf g)), (114, 0, 1, 0, 4, (fun _ _ => 1), (fun _ _ => 4), yX1_outerOf, spOf (MX1_outerOf g)), (86, 2, 3, 5, 2, (fun _ _ => 0), (fun _ _ => 0), yX1_give, spOf (MX1_give g)), (110, 3, 2, 4, 1, (fun _ _ => 0), (fun _ _ => 0), yX0_matches, spOf (MX0_matches g))], [], [], 0, [], [], g)
section
variable {g : RO} {Q : Ot → Hw → Prop} {st : List Value} {w : Hw} {k n p q : Nat} {a b : Int32} {x y : Int64} {u v : Value} {l0 l1 l2 l3 l4 : Option Value}
theorem eX1_outer_0 : WP (MX1_outer g) Q (0, [l0, some (.int a), l2, l3, l4], st, w, k, n) = WP (MX1_outer g) Q (1, [l0, some (.int a), l2, l3, l4], .int a :: st, w, k, n) := iln_e rfl (dt_q dX1_outer_0_D 0 rfl) rfl
theorem eX1_outer_1 {z0 : Int32} : WP (MX1_outer g) Q (1, [l0, l1, l2, l3, l4], .int z0 :: st, w, k, n) = (wt st ≤ 8 ∧ k + 1 ≤ 4 ∧ n + 6 ≤ 22 ∧ WP (MX1_needCard g) (kx (fun v w' => WP (MX1_outer g) Q (4, [l0, l1, l2, l3, l4], v.toList ++ st, w', k + 1, n + 6)) (fun E w' => Q (.inr E) w')) (0, [some (.int z0)], [], w, 0, 0)) := csS0 (M := (MX1_outer g)) (mc := (fun _ _ => 1)) (ms := (fun _ _ => 6)) (As := [.int z0]) (rest := st) (MX1_needCard g) rfl rfl rfl (dt_q dX1_outer_0_D 1 rfl) rfl rfl rfl rfl rfl rfl rfl
theorem eX1_outer_4 : WP (MX1_outer g) Q (4, [some (.ref p), l1, l2, l3, l4], st, w, k, n) = WP (MX1_outer g) Q (5, [some (.ref p), l1, l2, l3, l4], .ref p :: st, w, k, n) := alnR_e rfl (dt_q dX1_outer_0_D 2 rfl) rfl
theorem eX1_outer_4N : WP (MX1_outer g) Q (4, [some .null, l1, l2, l3, l4], st, w, k, n) = WP (MX1_outer g) Q (5, [some .null, l1, l2, l3, l4], .null :: st, w, k, n) := alnN_e rfl (dt_q dX1_outer_0_D 2 rfl) rfl
theorem eX1_outer_5 : WP (MX1_outer g) Q (5, [l0, l1, some (.int a), l3, l4], st, w, k, n) = WP (MX1_outer g) Q (6, [l0, l1, some (.int a), l3, l4], .int a :: st, w, k, n) := iln_e rfl (dt_q dX1_outer_0_D 3 rfl) rfl
theorem eX1_outer_6 {z0 : Int32} : WP (MX1_outer g) Q (6, [l0, l1, l2, l3, l4], .int z0 :: .ref p :: st, w, k, n) = (go (rd g w p) 5 (fun _ => True) ∧ wt st ≤ 8 ∧ k + 2 ≤ 4 ∧ n + 12 ≤ 22 ∧ WP (MX1_rangeOf g) (kx (fun v w' => WP (MX1_outer g) Q (9, [l0, l1, l2, l3, l4], v.toList ++ st, w', k + 2, n + 12)) (fun E w' => Q (.inr E) w')) (0, [some (.ref p), some (.int z0), none], [], w, 0, 0)) := csV0 (M := (MX1_outer g)) (mc := (fun _ _ => 2)) (ms := (fun _ _ => 12)) (As := [.int z0]) (rest := st) (MX1_rangeOf g) rfl rfl rfl (dt_q dX1_outer_0_D 4 rfl) rfl rfl rfl rfl rfl rfl
theorem eX1_outer_9 : WP (MX1_outer g) Q (9, [l0, l1, l2, l3, l4], .ref p :: st, w, k, n) = WP (MX1_outer g) Q (10, [l0, l1, nl l2, some (.ref p), l4], st, w, k, n) := asnR_e rfl (dt_q dX1_outer_0_D 5 rfl) rfl rfl
theorem eX1_outer_9N : WP (MX1_outer g) Q (9, [l0, l1, l2, l3, l4], .null :: st, w, k, n) = WP (MX1_outer g) Q (10, [l0, l1, nl l2, some (.null), l4], st, w, k, n) := asnN_e rfl (dt_q dX1_outer_0_D 5 rfl) rfl rfl
theorem eX1_outer_10 : WP (MX1_outer g) Q (10, [l0, l1, l2, some (.ref p), l4], st, w, k, n) = WP (MX1_outer g) Q (11, [l0, l1, l2, some (.ref p), l4], .ref p :: st, w, k, n) := alnR_e rfl (dt_q dX1_outer_0_D 6 rfl) rfl
theorem eX1_outer_10N : WP (MX1_outer g) Q (10, [l0, l1, l2, some .null, l4], st, w, k, n) = WP (MX1_outer g) Q (11, [l0, l1, l2, some .null, l4], .null :: st, w, k, n) := alnN_e rfl (dt_q dX1_outer_0_D 6 rfl) rfl
theorem eX1_outer_11R {z0 : Nat} : WP (MX1_outer g) Q (11, [l0, l1, l2, l3, l4], .ref z0 :: st, w, k, n) = (wt st ≤ 8 ∧ k + 1 ≤ 4 ∧ n + 4 ≤ 22 ∧ WP (MX1_outerOf g) (kx (fun v w' => WP (MX1_outer g) Q (14, [l0, l1, l2, l3, l4], v.toList ++ st, w', k + 1, n + 4)) (fun E w' => Q (.inr E) w')) (0, [some (.ref z0)], [], w, 0, 0)) := csS0 (M := (MX1_outer g)) (mc := (fun _ _ => 1)) (ms := (fun _ _ => 4)) (As := [.ref z0]) (rest := st) (MX1_outerOf g) rfl rfl rfl (dt_q dX1_outer_0_D 7 rfl) rfl rfl rfl rfl rfl rfl rfl
theorem eX1_outer_11N  : WP (MX1_outer g) Q (11, [l0, l1, l2, l3, l4], .null :: st, w, k, n) = (wt st ≤ 8 ∧ k + 1 ≤ 4 ∧ n + 4 ≤ 22 ∧ WP (MX1_outerOf g) (kx (fun v w' => WP (MX1_outer g) Q (14, [l0, l1, l2, l3, l4], v.toList ++ st, w', k + 1, n + 4)) (fun E w' => Q (.inr E) w')) (0, [some .null], [], w, 0, 0)) := csS0 (M := (MX1_outer g)) (mc := (fun _ _ => 1)) (ms := (fun _ _ => 4)) (As := [.null]) (rest := st) (MX1_outerOf g) rfl rfl rfl (dt_q dX1_outer_0_D 7 rfl) rfl rfl rfl rfl rfl rfl rfl
theorem eX1_outer_14 : WP (MX1_outer g) Q (14, [l0, l1, l2, l3, l4], .ref p :: st, w, k, n) = WP (MX1_outer g) Q (16, [l0, l1, l2, nl l3, some (.ref p)], st, w, k, n) := asR_e rfl (dt_q dX1_outer_0_D 8 rfl) rfl rfl
theorem eX1_outer_14N : WP (MX1_outer g) Q (14, [l0, l1, l2, l3, l4], .null :: st, w, k, n) = WP (MX1_outer g) Q (16, [l0, l1, l2, nl l3, some (.null)], st, w, k, n) := asN_e rfl (dt_q dX1_outer_0_D 8 rfl) rfl rfl
theorem eX1_outer_16 : WP (MX1_outer g) Q (16, [some (.ref p), l1, l2, l3, l4], st, w, k, n) = WP (MX1_outer g) Q (17, [some (.ref p), l1, l2, l3, l4], .ref p :: st, w, k, n) := alnR_e rfl (dt_q dX1_outer_0_D 9 rfl) rfl
theorem eX1_outer_16N : WP (MX1_outer g) Q (16, [some .null, l1, l2, l3, l4], st, w, k, n) = WP (MX1_outer g) Q (17, [some .null, l1, l2, l3, l4], .null :: st, w, k, n) := alnN_e rfl (dt_q dX1_outer_0_D 9 rfl) rfl
theorem eX1_outer_17 : WP (MX1_outer g) Q (17, [l0, some (.int a), l2, l3, l4], st, w, k, n) = WP (MX1_outer g) Q (18, [l0, some (.int a), l2, l3, l4], .int a :: st, w, k, n) := iln_e rfl (dt_q dX1_outer_0_D 10 rfl) rfl
theorem eX1_outer_18 : WP (MX1_outer g) Q (18, [l0, l1, l2, l3, some (.ref p)], st, w, k, n) = WP (MX1_outer g) Q (20, [l0, l1, l2, l3, some (.ref p)], .ref p :: st, w, k, n) := alR_e rfl (dt_q dX1_outer_0_D 11 rfl) rfl
theorem eX1_outer_18N : WP (MX1_outer g) Q (18, [l0, l1, l2, l3, some .null], st, w, k, n) = WP (MX1_outer g) Q (20, [l0, l1, l2, l3, some .null], .null :: st, w, k, n) := alN_e rfl (dt_q dX1_outer_0_D 11 rfl) rfl
theorem eX1_outer_20R {z0 : Int32} {z1 : Nat} : WP (MX1_outer g) Q (20, [l0, l1, l2, l3, l4], .ref z1 :: .int z0 :: .ref p :: st, w, k, n) = (go (rd g w p) 5 (fun _ => True) ∧ wt st ≤ 8 ∧ k + 0 ≤ 4 ∧ n + 0 ≤ 22 ∧ WP (MX1_give g) (kx (fun v w' => WP (MX1_outer g) Q (23, [l0, l1, l2, l3, l4], v.toList ++ st, w', k + 0, n + 0)) (fun E w' => Q (.inr E) w')) (0, [some (.ref p), some (.int z0), some (.ref z1)], [], w, 0, 0)) := csV0 (M := (MX1_outer g)) (mc := (fun _ _ => 0)) (ms := (fun _ _ => 0)) (As := [.int z0, .ref z1]) (rest := st) (MX1_give g) rfl rfl rfl (dt_q dX1_outer_0_D 12 rfl) rfl rfl rfl rfl rfl rfl
theorem eX1_outer_20N {z0 : Int32} : WP (MX1_outer g) Q (20, [l0, l1, l2, l3, l4], .null :: .int z0 :: .ref p :: st, w, k, n) = (go (rd g w p) 5 (fun _ => True) ∧ wt st ≤ 8 ∧ k + 0 ≤ 4 ∧ n + 0 ≤ 22 ∧ WP (MX1_give g) (kx (fun v w' => WP (MX1_outer g) Q (23, [l0, l1, l2, l3, l4], v.toList ++ st, w', k + 0, n + 0)) (fun E w' => Q (.inr E) w')) (0, [some (.ref p), some (.int z0), some .null], [], w, 0, 0)) := csV0 (M := (MX1_outer g)) (mc := (fun _ _ => 0)) (ms := (fun _ _ => 0)) (As := [.int z0, .null]) (rest := st) (MX1_give g) rfl rfl rfl (dt_q dX1_outer_0_D 12 rfl) rfl rfl rfl rfl rfl rfl
theorem eX1_outer_23 : WP (MX1_outer g) Q (23, [l0, l1, l2, l3, l4], .int a :: st, w, k, n) = WP (MX1_outer g) Q (24, [l0, l1, l2, l3, l4], st, w, k, n) := popI_e rfl (dt_q dX1_outer_0_D 13 rfl)
theorem eX1_outer_23R : WP (MX1_outer g) Q (23, [l0, l1, l2, l3, l4], .ref p :: st, w, k, n) = WP (MX1_outer g) Q (24, [l0, l1, l2, l3, l4], st, w, k, n) := popR_e rfl (dt_q dX1_outer_0_D 13 rfl)
theorem eX1_outer_23N : WP (MX1_outer g) Q (23, [l0, l1, l2, l3, l4], .null :: st, w, k, n) = WP (MX1_outer g) Q (24, [l0, l1, l2, l3, l4], st, w, k, n) := popN_e rfl (dt_q dX1_outer_0_D 13 rfl)
theorem eX1_outer_24 : WP (MX1_outer g) Q (24, [l0, l1, l2, some (.ref p), l4], st, w, k, n) = WP (MX1_outer g) Q (25, [l0, l1, l2, some (.ref p), l4], .ref p :: st, w, k, n) := alnR_e rfl (dt_q dX1_outer_0_D 14 rfl) rfl
theorem eX1_outer_24N : WP (MX1_outer g) Q (24, [l0, l1, l2, some .null, l4], st, w, k, n) = WP (MX1_outer g) Q (25, [l0, l1, l2, some .null, l4], .null :: st, w, k, n) := alnN_e rfl (dt_q dX1_outer_0_D 14 rfl) rfl
theorem eX1_outer_25 : WP (MX1_outer g) Q (25, [l0, l1, l2, l3, some (.ref p)], st, w, k, n) = WP (MX1_outer g) Q (27, [l0, l1, l2, l3, some (.ref p)], .ref p :: st, w, k, n) := alR_e rfl (dt_q dX1_outer_0_D 15 rfl) rfl
theorem eX1_outer_25N : WP (MX1_outer g) Q (25, [l0, l1, l2, l3, some .null], st, w, k, n) = WP (MX1_outer g) Q (27, [l0, l1, l2, l3, some .null], .null :: st, w, k, n) := alN_e rfl (dt_q dX1_outer_0_D 15 rfl) rfl
theorem eX1_outer_27R {z0 : Nat} : WP (MX1_outer g) Q (27, [l0, l1, l2, l3, l4], .ref z0 :: .ref p :: st, w, k, n) = (go (rd g w p) 4 (fun _ => True) ∧ wt st ≤ 8 ∧ k + 0 ≤ 4 ∧ n + 0 ≤ 22 ∧ WP (MX0_matches g) (kx (fun v w' => WP (MX1_outer g) Q (30, [l0, l1, l2, l3, l4], v.toList ++ st, w', k + 0, n + 0)) (fun E w' => Q (.inr E) w')) (0, [some (.ref p), some (.ref z0)], [], w, 0, 0)) := csV0 (M := (MX1_outer g)) (mc := (fun _ _ => 0)) (ms := (fun _ _ => 0)) (As := [.ref z0]) (rest := st) (MX0_matches g) rfl rfl rfl (dt_q dX1_outer_0_D 16 rfl) rfl rfl rfl rfl rfl rfl
theorem eX1_outer_27N  : WP (MX1_outer g) Q (27, [l0, l1, l2, l3, l4], .null :: .ref p :: st, w, k, n) = (go (rd g w p) 4 (fun _ => True) ∧ wt st ≤ 8 ∧ k + 0 ≤ 4 ∧ n + 0 ≤ 22 ∧ WP (MX0_matches g) (kx (fun v w' => WP (MX1_outer g) Q (30, [l0, l1, l2, l3, l4], v.toList ++ st, w', k + 0, n + 0)) (fun E w' => Q (.inr E) w')) (0, [some (.ref p), some .null], [], w, 0, 0)) := csV0 (M := (MX1_outer g)) (mc := (fun _ _ => 0)) (ms := (fun _ _ => 0)) (As := [.null]) (rest := st) (MX0_matches g) rfl rfl rfl (dt_q dX1_outer_0_D 16 rfl) rfl rfl rfl rfl rfl rfl
theorem eX1_outer_30 : WP (MX1_outer g) Q (30, [l0, l1, l2, l3, l4], .int a :: st, w, k, n) = if a = 0 then WP (MX1_outer g) Q (37, [l0, l1, l2, l3, l4], st, w, k, n) else WP (MX1_outer g) Q (33, [l0, l1, l2, l3, l4], st, w, k, n) := ifc_e (a = 0) rfl (dt_q dX1_outer_0_D 17 rfl) rfl (by decide)
theorem eX1_outer_33 : WP (MX1_outer g) Q (33, [l0, l1, l2, l3, l4], st, w, k, n) = WP (MX1_outer g) Q (34, [l0, l1, l2, l3, l4], .int 1 :: st, w, k, n) := ic_1 rfl (dt_q dX1_outer_0_D 18 rfl)
theorem eX1_outer_34 : WP (MX1_outer g) Q (34, [l0, l1, l2, l3, l4], st, w, k, n) = WP (MX1_outer g) Q (38, [l0, l1, l2, l3, l4], st, w, k, n) := goto_e rfl (dt_q dX1_outer_0_D 19 rfl) (by decide)
theorem eX1_outer_37 : WP (MX1_outer g) Q (37, [l0, l1, l2, l3, l4], st, w, k, n) = WP (MX1_outer g) Q (38, [l0, l1, l2, l3, l4], .int 0 :: st, w, k, n) := ic_0 rfl (dt_q dX1_outer_0_D 20 rfl)
theorem eX1_outer_38 : WP (MX1_outer g) Q (38, [l0, l1, l2, l3, l4], [.int a], w, k, n) = (k ≤ 4 ∧ n ≤ 22 ∧ Q (.inl (some (.int a))) w) := iretI_e rfl (dt_q dX1_outer_0_D 21 rfl) rfl
end
theorem vMX1_outer {l : Launch} (hl : l.stackTraces = false) (G : GT) : vM l G (MX1_outer (gg G)) := vM_k RX1 cX1_outer rfl rfl all_n all_n all_n all_n all_n (fun h => absurd rfl h) (all_c (kc_78 hl wk_816) (all_c (kc_123 hl wk_874) (all_c (kc_101 hl wk_189) (all_c (kc_121 hl wk_820) (all_c (kc_93 hl (⟨"Rangecard", tm_1 (List.mem_of_getElem? (i := 118) rfl)⟩)) (all_n)))))) all_n all_n (fun h => absurd rfl h) rfl all_n
theorem okX1_outer {l : Launch} (hl : l.stackTraces = false) {G : GT} : ∀ (args : List Value) (w : Hw) (S : Ot → Hw → Prop), spOf (MX1_outer (gg G)) args w S → CX l G yX1_outer (.code yX1_outer cX1_outer 5 (some .int)) 8 4 22 args w S := CX_sp (M := MX1_outer (gg G)) (y := yX1_outer) hl (by decide) rfl (vMX1_outer hl G) (fun h => by cases h) rfl
abbrev dX1_inner_0_T : List (Nat × Instr × Nat) := [(0, .iload_n 1, 1), (1, .invokestatic 79, 3), (4, .aload_n 0, 1), (5, .iload_n 2, 1), (6, .invokevirtual 98, 3), (9, .astore_n 3, 1), (10, .aload_n 0, 1), (11, .iload_n 1, 1), (12, .aload_n 3, 1), (13, .getfield 117, 3), (16, .aload_n 3, 1), (17, .getfield 121, 3), (20, .invokestatic 82, 3), (23, .invokevirtual 86, 3), (26, .ireturn, 1)]
theorem dX1_inner_0_D : dtc cX1_inner dX1_inner_0_T = true := by decide +kernel
def MX1_inner (g : RO) : MT := ((RX1, cX1_inner, 4, 8, 4, 22, false, some .int), [(117, 4, 1), (121, 4, 2)], [], [], [], [], 0, [(79, 0, 1, 0, 6, (fun _ _ => 1), (fun _ _ => 6), yX1_needCard, spOf (MX1_needCard g)), (98, 2, 2, 5, 7, (fun _ _ => 2), (fun _ _ => 12), yX1_rangeOf, spOf (MX1_rangeOf g)), (82, 1, 2, 0, 3, (fun _ _ => 1), (fun _ _ => 4), yX0_ofTwo, spOf (MX0_ofTwo g)), (86, 2, 3, 5, 2, (fun _ _ => 0), (fun _ _ => 0), yX1_give, spOf (MX1_give g))], [], [], 0, [], [], g)
section
variable {g : RO} {Q : Ot → Hw → Prop} {st : List Value} {w : Hw} {k n p q : Nat} {a b : Int32} {x y : Int64} {u v : Value} {l0 l1 l2 l3 : Option Value}
theorem eX1_inner_0 : WP (MX1_inner g) Q (0, [l0, some (.int a), l2, l3], st, w, k, n) = WP (MX1_inner g) Q (1, [l0, some (.int a), l2, l3], .int a :: st, w, k, n) := iln_e rfl (dt_q dX1_inner_0_D 0 rfl) rfl
theorem eX1_inner_1 {z0 : Int32} : WP (MX1_inner g) Q (1, [l0, l1, l2, l3], .int z0 :: st, w, k, n) = (wt st ≤ 8 ∧ k + 1 ≤ 4 ∧ n + 6 ≤ 22 ∧ WP (MX1_needCard g) (kx (fun v w' => WP (MX1_inner g) Q (4, [l0, l1, l2, l3], v.toList ++ st, w', k + 1, n + 6)) (fun E w' => Q (.inr E) w')) (0, [some (.int z0)], [], w, 0, 0)) := csS0 (M := (MX1_inner g)) (mc := (fun _ _ => 1)) (ms := (fun _ _ => 6)) (As := [.int z0]) (rest := st) (MX1_needCard g) rfl rfl rfl (dt_q dX1_inner_0_D 1 rfl) rfl rfl rfl rfl rfl rfl rfl
theorem eX1_inner_4 : WP (MX1_inner g) Q (4, [some (.ref p), l1, l2, l3], st, w, k, n) = WP (MX1_inner g) Q (5, [some (.ref p), l1, l2, l3], .ref p :: st, w, k, n) := alnR_e rfl (dt_q dX1_inner_0_D 2 rfl) rfl
theorem eX1_inner_4N : WP (MX1_inner g) Q (4, [some .null, l1, l2, l3], st, w, k, n) = WP (MX1_inner g) Q (5, [some .null, l1, l2, l3], .null :: st, w, k, n) := alnN_e rfl (dt_q dX1_inner_0_D 2 rfl) rfl
theorem eX1_inner_5 : WP (MX1_inner g) Q (5, [l0, l1, some (.int a), l3], st, w, k, n) = WP (MX1_inner g) Q (6, [l0, l1, some (.int a), l3], .int a :: st, w, k, n) := iln_e rfl (dt_q dX1_inner_0_D 3 rfl) rfl
theorem eX1_inner_6 {z0 : Int32} : WP (MX1_inner g) Q (6, [l0, l1, l2, l3], .int z0 :: .ref p :: st, w, k, n) = (go (rd g w p) 5 (fun _ => True) ∧ wt st ≤ 8 ∧ k + 2 ≤ 4 ∧ n + 12 ≤ 22 ∧ WP (MX1_rangeOf g) (kx (fun v w' => WP (MX1_inner g) Q (9, [l0, l1, l2, l3], v.toList ++ st, w', k + 2, n + 12)) (fun E w' => Q (.inr E) w')) (0, [some (.ref p), some (.int z0), none], [], w, 0, 0)) := csV0 (M := (MX1_inner g)) (mc := (fun _ _ => 2)) (ms := (fun _ _ => 12)) (As := [.int z0]) (rest := st) (MX1_rangeOf g) rfl rfl rfl (dt_q dX1_inner_0_D 4 rfl) rfl rfl rfl rfl rfl rfl
theorem eX1_inner_9 : WP (MX1_inner g) Q (9, [l0, l1, l2, l3], .ref p :: st, w, k, n) = WP (MX1_inner g) Q (10, [l0, l1, nl l2, some (.ref p)], st, w, k, n) := asnR_e rfl (dt_q dX1_inner_0_D 5 rfl) rfl rfl
theorem eX1_inner_9N : WP (MX1_inner g) Q (9, [l0, l1, l2, l3], .null :: st, w, k, n) = WP (MX1_inner g) Q (10, [l0, l1, nl l2, some (.null)], st, w, k, n) := asnN_e rfl (dt_q dX1_inner_0_D 5 rfl) rfl rfl
theorem eX1_inner_10 : WP (MX1_inner g) Q (10, [some (.ref p), l1, l2, l3], st, w, k, n) = WP (MX1_inner g) Q (11, [some (.ref p), l1, l2, l3], .ref p :: st, w, k, n) := alnR_e rfl (dt_q dX1_inner_0_D 6 rfl) rfl
theorem eX1_inner_10N : WP (MX1_inner g) Q (10, [some .null, l1, l2, l3], st, w, k, n) = WP (MX1_inner g) Q (11, [some .null, l1, l2, l3], .null :: st, w, k, n) := alnN_e rfl (dt_q dX1_inner_0_D 6 rfl) rfl
theorem eX1_inner_11 : WP (MX1_inner g) Q (11, [l0, some (.int a), l2, l3], st, w, k, n) = WP (MX1_inner g) Q (12, [l0, some (.int a), l2, l3], .int a :: st, w, k, n) := iln_e rfl (dt_q dX1_inner_0_D 7 rfl) rfl
theorem eX1_inner_12 : WP (MX1_inner g) Q (12, [l0, l1, l2, some (.ref p)], st, w, k, n) = WP (MX1_inner g) Q (13, [l0, l1, l2, some (.ref p)], .ref p :: st, w, k, n) := alnR_e rfl (dt_q dX1_inner_0_D 8 rfl) rfl
theorem eX1_inner_12N : WP (MX1_inner g) Q (12, [l0, l1, l2, some .null], st, w, k, n) = WP (MX1_inner g) Q (13, [l0, l1, l2, some .null], .null :: st, w, k, n) := alnN_e rfl (dt_q dX1_inner_0_D 8 rfl) rfl
theorem eX1_inner_13 : WP (MX1_inner g) Q (13, [l0, l1, l2, l3], .ref p :: st, w, k, n) = go (rd g w p) 4 fun fs => ∃ v, fs[1]? = some v ∧ WP (MX1_inner g) Q (16, [l0, l1, l2, l3], v :: st, w, k, n) := get_e rfl (dt_q dX1_inner_0_D 9 rfl) rfl
theorem eX1_inner_16 : WP (MX1_inner g) Q (16, [l0, l1, l2, some (.ref p)], st, w, k, n) = WP (MX1_inner g) Q (17, [l0, l1, l2, some (.ref p)], .ref p :: st, w, k, n) := alnR_e rfl (dt_q dX1_inner_0_D 10 rfl) rfl
theorem eX1_inner_16N : WP (MX1_inner g) Q (16, [l0, l1, l2, some .null], st, w, k, n) = WP (MX1_inner g) Q (17, [l0, l1, l2, some .null], .null :: st, w, k, n) := alnN_e rfl (dt_q dX1_inner_0_D 10 rfl) rfl
theorem eX1_inner_17 : WP (MX1_inner g) Q (17, [l0, l1, l2, l3], .ref p :: st, w, k, n) = go (rd g w p) 4 fun fs => ∃ v, fs[2]? = some v ∧ WP (MX1_inner g) Q (20, [l0, l1, l2, l3], v :: st, w, k, n) := get_e rfl (dt_q dX1_inner_0_D 11 rfl) rfl
theorem eX1_inner_20 {z0 : Int64} {z1 : Int64} : WP (MX1_inner g) Q (20, [l0, l1, l2, l3], .long z1 :: .long z0 :: st, w, k, n) = (wt st ≤ 8 ∧ k + 1 ≤ 4 ∧ n + 4 ≤ 22 ∧ WP (MX0_ofTwo g) (kx (fun v w' => WP (MX1_inner g) Q (23, [l0, l1, l2, l3], v.toList ++ st, w', k + 1, n + 4)) (fun E w' => Q (.inr E) w')) (0, [some (.long z0), none, some (.long z1), none], [], w, 0, 0)) := csS0 (M := (MX1_inner g)) (mc := (fun _ _ => 1)) (ms := (fun _ _ => 4)) (As := [.long z0, .long z1]) (rest := st) (MX0_ofTwo g) rfl rfl rfl (dt_q dX1_inner_0_D 12 rfl) rfl rfl rfl rfl rfl rfl rfl
theorem eX1_inner_23R {z0 : Int32} {z1 : Nat} : WP (MX1_inner g) Q (23, [l0, l1, l2, l3], .ref z1 :: .int z0 :: .ref p :: st, w, k, n) = (go (rd g w p) 5 (fun _ => True) ∧ wt st ≤ 8 ∧ k + 0 ≤ 4 ∧ n + 0 ≤ 22 ∧ WP (MX1_give g) (kx (fun v w' => WP (MX1_inner g) Q (26, [l0, l1, l2, l3], v.toList ++ st, w', k + 0, n + 0)) (fun E w' => Q (.inr E) w')) (0, [some (.ref p), some (.int z0), some (.ref z1)], [], w, 0, 0)) := csV0 (M := (MX1_inner g)) (mc := (fun _ _ => 0)) (ms := (fun _ _ => 0)) (As := [.int z0, .ref z1]) (rest := st) (MX1_give g) rfl rfl rfl (dt_q dX1_inner_0_D 13 rfl) rfl rfl rfl rfl rfl rfl
theorem eX1_inner_23N {z0 : Int32} : WP (MX1_inner g) Q (23, [l0, l1, l2, l3], .null :: .int z0 :: .ref p :: st, w, k, n) = (go (rd g w p) 5 (fun _ => True) ∧ wt st ≤ 8 ∧ k + 0 ≤ 4 ∧ n + 0 ≤ 22 ∧ WP (MX1_give g) (kx (fun v w' => WP (MX1_inner g) Q (26, [l0, l1, l2, l3], v.toList ++ st, w', k + 0, n + 0)) (fun E w' => Q (.inr E) w')) (0, [some (.ref p), some (.int z0), some .null], [], w, 0, 0)) := csV0 (M := (MX1_inner g)) (mc := (fun _ _ => 0)) (ms := (fun _ _ => 0)) (As := [.int z0, .null]) (rest := st) (MX1_give g) rfl rfl rfl (dt_q dX1_inner_0_D 13 rfl) rfl rfl rfl rfl rfl rfl
theorem eX1_inner_26 : WP (MX1_inner g) Q (26, [l0, l1, l2, l3], [.int a], w, k, n) = (k ≤ 4 ∧ n ≤ 22 ∧ Q (.inl (some (.int a))) w) := iretI_e rfl (dt_q dX1_inner_0_D 14 rfl) rfl
end
theorem vMX1_inner {l : Launch} (hl : l.stackTraces = false) (G : GT) : vM l G (MX1_inner (gg G)) := vM_k RX1 cX1_inner rfl rfl (all_c (vF_RX1_117) (all_c (vF_RX1_121) (all_n))) all_n all_n all_n all_n (fun h => absurd rfl h) (all_c (kc_78 hl wk_816) (all_c (kc_123 hl wk_874) (all_c (kc_83 hl (⟨"Rangecard", tm_1 (List.mem_of_getElem? (i := 134) rfl)⟩)) (all_c (kc_121 hl wk_820) (all_n))))) all_n all_n (fun h => absurd rfl h) rfl all_n
theorem okX1_inner {l : Launch} (hl : l.stackTraces = false) {G : GT} : ∀ (args : List Value) (w : Hw) (S : Ot → Hw → Prop), spOf (MX1_inner (gg G)) args w S → CX l G yX1_inner (.code yX1_inner cX1_inner 4 (some .int)) 8 4 22 args w S := CX_sp (M := MX1_inner (gg G)) (y := yX1_inner) hl (by decide) rfl (vMX1_inner hl G) (fun h => by cases h) rfl
abbrev dX1_span_0_T : List (Nat × Instr × Nat) := [(0, .iload_n 1, 1), (1, .invokestatic 79, 3), (4, .iload_n 2, 1), (5, .invokestatic 79, 3), (8, .iload_n 3, 1), (9, .invokestatic 79, 3), (12, .aload_n 0, 1), (13, .iload_n 2, 1), (14, .invokevirtual 98, 3), (17, .astore 4, 2), (19, .aload_n 0, 1), (20, .iload_n 3, 1), (21, .invokevirtual 98, 3), (24, .astore 5, 2), (26, .aload_n 0, 1), (27, .iload_n 1, 1), (28, .aload 4, 2), (30, .getfield 124, 3), (33, .aload 4, 2), (35, .getfield 117, 3), (38, .aload 5, 2), (40, .getfield 121, 3), (43, .aload 5, 2), (45, .getfield 127, 3), (48, .invokestatic 94, 3), (51, .invokevirtual 86, 3), (54, .ireturn, 1)]
theorem dX1_span_0_D : dtc cX1_span dX1_span_0_T = true := by decide +kernel
def MX1_span (g : RO) : MT := ((RX1, cX1_span, 6, 8, 8, 46, false, some .int), [(124, 4, 0), (117, 4, 1), (121, 4, 2), (127, 4, 3)], [], [], [], [], 0, [(79, 0, 1, 0, 6, (fun _ _ => 1), (fun _ _ => 6), yX1_needCard, spOf (MX1_needCard g)), (98, 2, 2, 5, 7, (fun _ _ => 2), (fun _ _ => 12), yX1_rangeOf, spOf (MX1_rangeOf g)), (94, 1, 4, 0, 2, (fun _ _ => 1), (fun _ _ => 4), yX0_ofFour, spOf (MX0_ofFour g)), (86, 2, 3, 5, 2, (fun _ _ => 0), (fun _ _ => 0), yX1_give, spOf (MX1_give g))], [], [], 0, [], [], g)
section
variable {g : RO} {Q : Ot → Hw → Prop} {st : List Value} {w : Hw} {k n p q : Nat} {a b : Int32} {x y : Int64} {u v : Value} {l0 l1 l2 l3 l4 l5 : Option Value}
theorem eX1_span_0 : WP (MX1_span g) Q (0, [l0, some (.int a), l2, l3, l4, l5], st, w, k, n) = WP (MX1_span g) Q (1, [l0, some (.int a), l2, l3, l4, l5], .int a :: st, w, k, n) := iln_e rfl (dt_q dX1_span_0_D 0 rfl) rfl
theorem eX1_span_1 {z0 : Int32} : WP (MX1_span g) Q (1, [l0, l1, l2, l3, l4, l5], .int z0 :: st, w, k, n) = (wt st ≤ 8 ∧ k + 1 ≤ 8 ∧ n + 6 ≤ 46 ∧ WP (MX1_needCard g) (kx (fun v w' => WP (MX1_span g) Q (4, [l0, l1, l2, l3, l4, l5], v.toList ++ st, w', k + 1, n + 6)) (fun E w' => Q (.inr E) w')) (0, [some (.int z0)], [], w, 0, 0)) := csS0 (M := (MX1_span g)) (mc := (fun _ _ => 1)) (ms := (fun _ _ => 6)) (As := [.int z0]) (rest := st) (MX1_needCard g) rfl rfl rfl (dt_q dX1_span_0_D 1 rfl) rfl rfl rfl rfl rfl rfl rfl
theorem eX1_span_4 : WP (MX1_span g) Q (4, [l0, l1, some (.int a), l3, l4, l5], st, w, k, n) = WP (MX1_span g) Q (5, [l0, l1, some (.int a), l3, l4, l5], .int a :: st, w, k, n) := iln_e rfl (dt_q dX1_span_0_D 2 rfl) rfl
theorem eX1_span_5 {z0 : Int32} : WP (MX1_span g) Q (5, [l0, l1, l2, l3, l4, l5], .int z0 :: st, w, k, n) = (wt st ≤ 8 ∧ k + 1 ≤ 8 ∧ n + 6 ≤ 46 ∧ WP (MX1_needCard g) (kx (fun v w' => WP (MX1_span g) Q (8, [l0, l1, l2, l3, l4, l5], v.toList ++ st, w', k + 1, n + 6)) (fun E w' => Q (.inr E) w')) (0, [some (.int z0)], [], w, 0, 0)) := csS0 (M := (MX1_span g)) (mc := (fun _ _ => 1)) (ms := (fun _ _ => 6)) (As := [.int z0]) (rest := st) (MX1_needCard g) rfl rfl rfl (dt_q dX1_span_0_D 3 rfl) rfl rfl rfl rfl rfl rfl rfl
theorem eX1_span_8 : WP (MX1_span g) Q (8, [l0, l1, l2, some (.int a), l4, l5], st, w, k, n) = WP (MX1_span g) Q (9, [l0, l1, l2, some (.int a), l4, l5], .int a :: st, w, k, n) := iln_e rfl (dt_q dX1_span_0_D 4 rfl) rfl
theorem eX1_span_9 {z0 : Int32} : WP (MX1_span g) Q (9, [l0, l1, l2, l3, l4, l5], .int z0 :: st, w, k, n) = (wt st ≤ 8 ∧ k + 1 ≤ 8 ∧ n + 6 ≤ 46 ∧ WP (MX1_needCard g) (kx (fun v w' => WP (MX1_span g) Q (12, [l0, l1, l2, l3, l4, l5], v.toList ++ st, w', k + 1, n + 6)) (fun E w' => Q (.inr E) w')) (0, [some (.int z0)], [], w, 0, 0)) := csS0 (M := (MX1_span g)) (mc := (fun _ _ => 1)) (ms := (fun _ _ => 6)) (As := [.int z0]) (rest := st) (MX1_needCard g) rfl rfl rfl (dt_q dX1_span_0_D 5 rfl) rfl rfl rfl rfl rfl rfl rfl
theorem eX1_span_12 : WP (MX1_span g) Q (12, [some (.ref p), l1, l2, l3, l4, l5], st, w, k, n) = WP (MX1_span g) Q (13, [some (.ref p), l1, l2, l3, l4, l5], .ref p :: st, w, k, n) := alnR_e rfl (dt_q dX1_span_0_D 6 rfl) rfl
theorem eX1_span_12N : WP (MX1_span g) Q (12, [some .null, l1, l2, l3, l4, l5], st, w, k, n) = WP (MX1_span g) Q (13, [some .null, l1, l2, l3, l4, l5], .null :: st, w, k, n) := alnN_e rfl (dt_q dX1_span_0_D 6 rfl) rfl
theorem eX1_span_13 : WP (MX1_span g) Q (13, [l0, l1, some (.int a), l3, l4, l5], st, w, k, n) = WP (MX1_span g) Q (14, [l0, l1, some (.int a), l3, l4, l5], .int a :: st, w, k, n) := iln_e rfl (dt_q dX1_span_0_D 7 rfl) rfl
theorem eX1_span_14 {z0 : Int32} : WP (MX1_span g) Q (14, [l0, l1, l2, l3, l4, l5], .int z0 :: .ref p :: st, w, k, n) = (go (rd g w p) 5 (fun _ => True) ∧ wt st ≤ 8 ∧ k + 2 ≤ 8 ∧ n + 12 ≤ 46 ∧ WP (MX1_rangeOf g) (kx (fun v w' => WP (MX1_span g) Q (17, [l0, l1, l2, l3, l4, l5], v.toList ++ st, w', k + 2, n + 12)) (fun E w' => Q (.inr E) w')) (0, [some (.ref p), some (.int z0), none], [], w, 0, 0)) := csV0 (M := (MX1_span g)) (mc := (fun _ _ => 2)) (ms := (fun _ _ => 12)) (As := [.int z0]) (rest := st) (MX1_rangeOf g) rfl rfl rfl (dt_q dX1_span_0_D 8 rfl) rfl rfl rfl rfl rfl rfl
theorem eX1_span_17 : WP (MX1_span g) Q (17, [l0, l1, l2, l3, l4, l5], .ref p :: st, w, k, n) = WP (MX1_span g) Q (19, [l0, l1, l2, nl l3, some (.ref p), l5], st, w, k, n) := asR_e rfl (dt_q dX1_span_0_D 9 rfl) rfl rfl
theorem eX1_span_17N : WP (MX1_span g) Q (17, [l0, l1, l2, l3, l4, l5], .null :: st, w, k, n) = WP (MX1_span g) Q (19, [l0, l1, l2, nl l3, some (.null), l5], st, w, k, n) := asN_e rfl (dt_q dX1_span_0_D 9 rfl) rfl rfl
theorem eX1_span_19 : WP (MX1_span g) Q (19, [some (.ref p), l1, l2, l3, l4, l5], st, w, k, n) = WP (MX1_span g) Q (20, [some (.ref p), l1, l2, l3, l4, l5], .ref p :: st, w, k, n) := alnR_e rfl (dt_q dX1_span_0_D 10 rfl) rfl
theorem eX1_span_19N : WP (MX1_span g) Q (19, [some .null, l1, l2, l3, l4, l5], st, w, k, n) = WP (MX1_span g) Q (20, [some .null, l1, l2, l3, l4, l5], .null :: st, w, k, n) := alnN_e rfl (dt_q dX1_span_0_D 10 rfl) rfl
theorem eX1_span_20 : WP (MX1_span g) Q (20, [l0, l1, l2, some (.int a), l4, l5], st, w, k, n) = WP (MX1_span g) Q (21, [l0, l1, l2, some (.int a), l4, l5], .int a :: st, w, k, n) := iln_e rfl (dt_q dX1_span_0_D 11 rfl) rfl
theorem eX1_span_21 {z0 : Int32} : WP (MX1_span g) Q (21, [l0, l1, l2, l3, l4, l5], .int z0 :: .ref p :: st, w, k, n) = (go (rd g w p) 5 (fun _ => True) ∧ wt st ≤ 8 ∧ k + 2 ≤ 8 ∧ n + 12 ≤ 46 ∧ WP (MX1_rangeOf g) (kx (fun v w' => WP (MX1_span g) Q (24, [l0, l1, l2, l3, l4, l5], v.toList ++ st, w', k + 2, n + 12)) (fun E w' => Q (.inr E) w')) (0, [some (.ref p), some (.int z0), none], [], w, 0, 0)) := csV0 (M := (MX1_span g)) (mc := (fun _ _ => 2)) (ms := (fun _ _ => 12)) (As := [.int z0]) (rest := st) (MX1_rangeOf g) rfl rfl rfl (dt_q dX1_span_0_D 12 rfl) rfl rfl rfl rfl rfl rfl
theorem eX1_span_24 : WP (MX1_span g) Q (24, [l0, l1, l2, l3, l4, l5], .ref p :: st, w, k, n) = WP (MX1_span g) Q (26, [l0, l1, l2, l3, nl l4, some (.ref p)], st, w, k, n) := asR_e rfl (dt_q dX1_span_0_D 13 rfl) rfl rfl
theorem eX1_span_24N : WP (MX1_span g) Q (24, [l0, l1, l2, l3, l4, l5], .null :: st, w, k, n) = WP (MX1_span g) Q (26, [l0, l1, l2, l3, nl l4, some (.null)], st, w, k, n) := asN_e rfl (dt_q dX1_span_0_D 13 rfl) rfl rfl
theorem eX1_span_26 : WP (MX1_span g) Q (26, [some (.ref p), l1, l2, l3, l4, l5], st, w, k, n) = WP (MX1_span g) Q (27, [some (.ref p), l1, l2, l3, l4, l5], .ref p :: st, w, k, n) := alnR_e rfl (dt_q dX1_span_0_D 14 rfl) rfl
theorem eX1_span_26N : WP (MX1_span g) Q (26, [some .null, l1, l2, l3, l4, l5], st, w, k, n) = WP (MX1_span g) Q (27, [some .null, l1, l2, l3, l4, l5], .null :: st, w, k, n) := alnN_e rfl (dt_q dX1_span_0_D 14 rfl) rfl
theorem eX1_span_27 : WP (MX1_span g) Q (27, [l0, some (.int a), l2, l3, l4, l5], st, w, k, n) = WP (MX1_span g) Q (28, [l0, some (.int a), l2, l3, l4, l5], .int a :: st, w, k, n) := iln_e rfl (dt_q dX1_span_0_D 15 rfl) rfl
theorem eX1_span_28 : WP (MX1_span g) Q (28, [l0, l1, l2, l3, some (.ref p), l5], st, w, k, n) = WP (MX1_span g) Q (30, [l0, l1, l2, l3, some (.ref p), l5], .ref p :: st, w, k, n) := alR_e rfl (dt_q dX1_span_0_D 16 rfl) rfl
theorem eX1_span_28N : WP (MX1_span g) Q (28, [l0, l1, l2, l3, some .null, l5], st, w, k, n) = WP (MX1_span g) Q (30, [l0, l1, l2, l3, some .null, l5], .null :: st, w, k, n) := alN_e rfl (dt_q dX1_span_0_D 16 rfl) rfl
theorem eX1_span_30 : WP (MX1_span g) Q (30, [l0, l1, l2, l3, l4, l5], .ref p :: st, w, k, n) = go (rd g w p) 4 fun fs => ∃ v, fs[0]? = some v ∧ WP (MX1_span g) Q (33, [l0, l1, l2, l3, l4, l5], v :: st, w, k, n) := get_e rfl (dt_q dX1_span_0_D 17 rfl) rfl
theorem eX1_span_33 : WP (MX1_span g) Q (33, [l0, l1, l2, l3, some (.ref p), l5], st, w, k, n) = WP (MX1_span g) Q (35, [l0, l1, l2, l3, some (.ref p), l5], .ref p :: st, w, k, n) := alR_e rfl (dt_q dX1_span_0_D 18 rfl) rfl
theorem eX1_span_33N : WP (MX1_span g) Q (33, [l0, l1, l2, l3, some .null, l5], st, w, k, n) = WP (MX1_span g) Q (35, [l0, l1, l2, l3, some .null, l5], .null :: st, w, k, n) := alN_e rfl (dt_q dX1_span_0_D 18 rfl) rfl
theorem eX1_span_35 : WP (MX1_span g) Q (35, [l0, l1, l2, l3, l4, l5], .ref p :: st, w, k, n) = go (rd g w p) 4 fun fs => ∃ v, fs[1]? = some v ∧ WP (MX1_span g) Q (38, [l0, l1, l2, l3, l4, l5], v :: st, w, k, n) := get_e rfl (dt_q dX1_span_0_D 19 rfl) rfl
theorem eX1_span_38 : WP (MX1_span g) Q (38, [l0, l1, l2, l3, l4, some (.ref p)], st, w, k, n) = WP (MX1_span g) Q (40, [l0, l1, l2, l3, l4, some (.ref p)], .ref p :: st, w, k, n) := alR_e rfl (dt_q dX1_span_0_D 20 rfl) rfl
theorem eX1_span_38N : WP (MX1_span g) Q (38, [l0, l1, l2, l3, l4, some .null], st, w, k, n) = WP (MX1_span g) Q (40, [l0, l1, l2, l3, l4, some .null], .null :: st, w, k, n) := alN_e rfl (dt_q dX1_span_0_D 20 rfl) rfl
theorem eX1_span_40 : WP (MX1_span g) Q (40, [l0, l1, l2, l3, l4, l5], .ref p :: st, w, k, n) = go (rd g w p) 4 fun fs => ∃ v, fs[2]? = some v ∧ WP (MX1_span g) Q (43, [l0, l1, l2, l3, l4, l5], v :: st, w, k, n) := get_e rfl (dt_q dX1_span_0_D 21 rfl) rfl
theorem eX1_span_43 : WP (MX1_span g) Q (43, [l0, l1, l2, l3, l4, some (.ref p)], st, w, k, n) = WP (MX1_span g) Q (45, [l0, l1, l2, l3, l4, some (.ref p)], .ref p :: st, w, k, n) := alR_e rfl (dt_q dX1_span_0_D 22 rfl) rfl
theorem eX1_span_43N : WP (MX1_span g) Q (43, [l0, l1, l2, l3, l4, some .null], st, w, k, n) = WP (MX1_span g) Q (45, [l0, l1, l2, l3, l4, some .null], .null :: st, w, k, n) := alN_e rfl (dt_q dX1_span_0_D 22 rfl) rfl
theorem eX1_span_45 : WP (MX1_span g) Q (45, [l0, l1, l2, l3, l4, l5], .ref p :: st, w, k, n) = go (rd g w p) 4 fun fs => ∃ v, fs[3]? = some v ∧ WP (MX1_span g) Q (48, [l0, l1, l2, l3, l4, l5], v :: st, w, k, n) := get_e rfl (dt_q dX1_span_0_D 23 rfl) rfl
theorem eX1_span_48 {z0 : Int64} {z1 : Int64} {z2 : Int64} {z3 : Int64} : WP (MX1_span g) Q (48, [l0, l1, l2, l3, l4, l5], .long z3 :: .long z2 :: .long z1 :: .long z0 :: st, w, k, n) = (wt st ≤ 8 ∧ k + 1 ≤ 8 ∧ n + 4 ≤ 46 ∧ WP (MX0_ofFour g) (kx (fun v w' => WP (MX1_span g) Q (51, [l0, l1, l2, l3, l4, l5], v.toList ++ st, w', k + 1, n + 4)) (fun E w' => Q (.inr E) w')) (0, [some (.long z0), none, some (.long z1), none, some (.long z2), none, some (.long z3), none], [], w, 0, 0)) := csS0 (M := (MX1_span g)) (mc := (fun _ _ => 1)) (ms := (fun _ _ => 4)) (As := [.long z0, .long z1, .long z2, .long z3]) (rest := st) (MX0_ofFour g) rfl rfl rfl (dt_q dX1_span_0_D 24 rfl) rfl rfl rfl rfl rfl rfl rfl
theorem eX1_span_51R {z0 : Int32} {z1 : Nat} : WP (MX1_span g) Q (51, [l0, l1, l2, l3, l4, l5], .ref z1 :: .int z0 :: .ref p :: st, w, k, n) = (go (rd g w p) 5 (fun _ => True) ∧ wt st ≤ 8 ∧ k + 0 ≤ 8 ∧ n + 0 ≤ 46 ∧ WP (MX1_give g) (kx (fun v w' => WP (MX1_span g) Q (54, [l0, l1, l2, l3, l4, l5], v.toList ++ st, w', k + 0, n + 0)) (fun E w' => Q (.inr E) w')) (0, [some (.ref p), some (.int z0), some (.ref z1)], [], w, 0, 0)) := csV0 (M := (MX1_span g)) (mc := (fun _ _ => 0)) (ms := (fun _ _ => 0)) (As := [.int z0, .ref z1]) (rest := st) (MX1_give g) rfl rfl rfl (dt_q dX1_span_0_D 25 rfl) rfl rfl rfl rfl rfl rfl
theorem eX1_span_51N {z0 : Int32} : WP (MX1_span g) Q (51, [l0, l1, l2, l3, l4, l5], .null :: .int z0 :: .ref p :: st, w, k, n) = (go (rd g w p) 5 (fun _ => True) ∧ wt st ≤ 8 ∧ k + 0 ≤ 8 ∧ n + 0 ≤ 46 ∧ WP (MX1_give g) (kx (fun v w' => WP (MX1_span g) Q (54, [l0, l1, l2, l3, l4, l5], v.toList ++ st, w', k + 0, n + 0)) (fun E w' => Q (.inr E) w')) (0, [some (.ref p), some (.int z0), some .null], [], w, 0, 0)) := csV0 (M := (MX1_span g)) (mc := (fun _ _ => 0)) (ms := (fun _ _ => 0)) (As := [.int z0, .null]) (rest := st) (MX1_give g) rfl rfl rfl (dt_q dX1_span_0_D 25 rfl) rfl rfl rfl rfl rfl rfl
theorem eX1_span_54 : WP (MX1_span g) Q (54, [l0, l1, l2, l3, l4, l5], [.int a], w, k, n) = (k ≤ 8 ∧ n ≤ 46 ∧ Q (.inl (some (.int a))) w) := iretI_e rfl (dt_q dX1_span_0_D 26 rfl) rfl
end
theorem vMX1_span {l : Launch} (hl : l.stackTraces = false) (G : GT) : vM l G (MX1_span (gg G)) := vM_k RX1 cX1_span rfl rfl (all_c (vF_RX1_124) (all_c (vF_RX1_117) (all_c (vF_RX1_121) (all_c (vF_RX1_127) (all_n))))) all_n all_n all_n all_n (fun h => absurd rfl h) (all_c (kc_78 hl wk_816) (all_c (kc_123 hl wk_874) (all_c (kc_82 hl (⟨"Rangecard", tm_1 (List.mem_of_getElem? (i := 89) rfl)⟩)) (all_c (kc_121 hl wk_820) (all_n))))) all_n all_n (fun h => absurd rfl h) rfl all_n
theorem okX1_span {l : Launch} (hl : l.stackTraces = false) {G : GT} : ∀ (args : List Value) (w : Hw) (S : Ot → Hw → Prop), spOf (MX1_span (gg G)) args w S → CX l G yX1_span (.code yX1_span cX1_span 6 (some .int)) 8 8 46 args w S := CX_sp (M := MX1_span (gg G)) (y := yX1_span) hl (by decide) rfl (vMX1_span hl G) (fun h => by cases h) rfl
abbrev dX1_shift_0_T : List (Nat × Instr × Nat) := [(0, .aload_n 0, 1), (1, .iload_n 1, 1), (2, .invokevirtual 98, 3), (5, .astore_n 3, 1), (6, .aload_n 0, 1), (7, .iload_n 1, 1), (8, .aload_n 3, 1), (9, .getfield 124, 3), (12, .iload_n 2, 1), (13, .i2l, 1), (14, .ladd, 1), (15, .aload_n 3, 1), (16, .getfield 117, 3), (19, .iload_n 2, 1), (20, .i2l, 1), (21, .ladd, 1), (22, .aload_n 3, 1), (23, .getfield 121, 3), (26, .iload_n 2, 1), (27, .i2l, 1), (28, .ladd, 1), (29, .aload_n 3, 1), (30, .getfield 127, 3), (33, .iload_n 2, 1), (34, .i2l, 1), (35, .ladd, 1), (36, .invokestatic 94, 3), (39, .invokevirtual 86, 3), (42, .ireturn, 1)]
theorem dX1_shift_0_D : dtc cX1_shift dX1_shift_0_T = true := by decide +kernel
def MX1_shift (g : RO) : MT := ((RX1, cX1_shift, 4, 8, 3, 16, false, some .int), [(124, 4, 0), (117, 4, 1), (121, 4, 2), (127, 4, 3)], [], [], [], [], 0, [(98, 2, 2, 5, 7, (fun _ _ => 2), (fun _ _ => 12), yX1_rangeOf, spOf (MX1_rangeOf g)), (94, 1, 4, 0, 2, (fun _ _ => 1), (fun _ _ => 4), yX0_ofFour, spOf (MX0_ofFour g)), (86, 2, 3, 5, 2, (fun _ _ => 0), (fun _ _ => 0), yX1_give, spOf (MX1_give g))], [], [], 0, [], [], g)
section
variable {g : RO} {Q : Ot → Hw → Prop} {st : List Value} {w : Hw} {k n p q : Nat} {a b : Int32} {x y : Int64} {u v : Value} {l0 l1 l2 l3 : Option Value}
theorem eX1_shift_0 : WP (MX1_shift g) Q (0, [some (.ref p), l1, l2, l3], st, w, k, n) = WP (MX1_shift g) Q (1, [some (.ref p), l1, l2, l3], .ref p :: st, w, k, n) := alnR_e rfl (dt_q dX1_shift_0_D 0 rfl) rfl
theorem eX1_shift_0N : WP (MX1_shift g) Q (0, [some .null, l1, l2, l3], st, w, k, n) = WP (MX1_shift g) Q (1, [some .null, l1, l2, l3], .null :: st, w, k, n) := alnN_e rfl (dt_q dX1_shift_0_D 0 rfl) rfl
theorem eX1_shift_1 : WP (MX1_shift g) Q (1, [l0, some (.int a), l2, l3], st, w, k, n) = WP (MX1_shift g) Q (2, [l0, some (.int a), l2, l3], .int a :: st, w, k, n) := iln_e rfl (dt_q dX1_shift_0_D 1 rfl) rfl
theorem eX1_shift_2 {z0 : Int32} : WP (MX1_shift g) Q (2, [l0, l1, l2, l3], .int z0 :: .ref p :: st, w, k, n) = (go (rd g w p) 5 (fun _ => True) ∧ wt st ≤ 8 ∧ k + 2 ≤ 3 ∧ n + 12 ≤ 16 ∧ WP (MX1_rangeOf g) (kx (fun v w' => WP (MX1_shift g) Q (5, [l0, l1, l2, l3], v.toList ++ st, w', k + 2, n + 12)) (fun E w' => Q (.inr E) w')) (0, [some (.ref p), some (.int z0), none], [], w, 0, 0)) := csV0 (M := (MX1_shift g)) (mc := (fun _ _ => 2)) (ms := (fun _ _ => 12)) (As := [.int z0]) (rest := st) (MX1_rangeOf g) rfl rfl rfl (dt_q dX1_shift_0_D 2 rfl) rfl rfl rfl rfl rfl rfl
theorem eX1_shift_5 : WP (MX1_shift g) Q (5, [l0, l1, l2, l3], .ref p :: st, w, k, n) = WP (MX1_shift g) Q (6, [l0, l1, nl l2, some (.ref p)], st, w, k, n) := asnR_e rfl (dt_q dX1_shift_0_D 3 rfl) rfl rfl
theorem eX1_shift_5N : WP (MX1_shift g) Q (5, [l0, l1, l2, l3], .null :: st, w, k, n) = WP (MX1_shift g) Q (6, [l0, l1, nl l2, some (.null)], st, w, k, n) := asnN_e rfl (dt_q dX1_shift_0_D 3 rfl) rfl rfl
theorem eX1_shift_6 : WP (MX1_shift g) Q (6, [some (.ref p), l1, l2, l3], st, w, k, n) = WP (MX1_shift g) Q (7, [some (.ref p), l1, l2, l3], .ref p :: st, w, k, n) := alnR_e rfl (dt_q dX1_shift_0_D 4 rfl) rfl
theorem eX1_shift_6N : WP (MX1_shift g) Q (6, [some .null, l1, l2, l3], st, w, k, n) = WP (MX1_shift g) Q (7, [some .null, l1, l2, l3], .null :: st, w, k, n) := alnN_e rfl (dt_q dX1_shift_0_D 4 rfl) rfl
theorem eX1_shift_7 : WP (MX1_shift g) Q (7, [l0, some (.int a), l2, l3], st, w, k, n) = WP (MX1_shift g) Q (8, [l0, some (.int a), l2, l3], .int a :: st, w, k, n) := iln_e rfl (dt_q dX1_shift_0_D 5 rfl) rfl
theorem eX1_shift_8 : WP (MX1_shift g) Q (8, [l0, l1, l2, some (.ref p)], st, w, k, n) = WP (MX1_shift g) Q (9, [l0, l1, l2, some (.ref p)], .ref p :: st, w, k, n) := alnR_e rfl (dt_q dX1_shift_0_D 6 rfl) rfl
theorem eX1_shift_8N : WP (MX1_shift g) Q (8, [l0, l1, l2, some .null], st, w, k, n) = WP (MX1_shift g) Q (9, [l0, l1, l2, some .null], .null :: st, w, k, n) := alnN_e rfl (dt_q dX1_shift_0_D 6 rfl) rfl
theorem eX1_shift_9 : WP (MX1_shift g) Q (9, [l0, l1, l2, l3], .ref p :: st, w, k, n) = go (rd g w p) 4 fun fs => ∃ v, fs[0]? = some v ∧ WP (MX1_shift g) Q (12, [l0, l1, l2, l3], v :: st, w, k, n) := get_e rfl (dt_q dX1_shift_0_D 7 rfl) rfl
theorem eX1_shift_12 : WP (MX1_shift g) Q (12, [l0, l1, some (.int a), l3], st, w, k, n) = WP (MX1_shift g) Q (13, [l0, l1, some (.int a), l3], .int a :: st, w, k, n) := iln_e rfl (dt_q dX1_shift_0_D 8 rfl) rfl
theorem eX1_shift_13 : WP (MX1_shift g) Q (13, [l0, l1, l2, l3], .int a :: st, w, k, n) = WP (MX1_shift g) Q (14, [l0, l1, l2, l3], .long a.toInt64 :: st, w, k, n) := i2l_e rfl (dt_q dX1_shift_0_D 9 rfl)
theorem eX1_shift_14 : WP (MX1_shift g) Q (14, [l0, l1, l2, l3], .long y :: .long x :: st, w, k, n) = WP (MX1_shift g) Q (15, [l0, l1, l2, l3], .long (x + y) :: st, w, k, n) := ladd_e rfl (dt_q dX1_shift_0_D 10 rfl)
theorem eX1_shift_15 : WP (MX1_shift g) Q (15, [l0, l1, l2, some (.ref p)], st, w, k, n) = WP (MX1_shift g) Q (16, [l0, l1, l2, some (.ref p)], .ref p :: st, w, k, n) := alnR_e rfl (dt_q dX1_shift_0_D 11 rfl) rfl
theorem eX1_shift_15N : WP (MX1_shift g) Q (15, [l0, l1, l2, some .null], st, w, k, n) = WP (MX1_shift g) Q (16, [l0, l1, l2, some .null], .null :: st, w, k, n) := alnN_e rfl (dt_q dX1_shift_0_D 11 rfl) rfl
theorem eX1_shift_16 : WP (MX1_shift g) Q (16, [l0, l1, l2, l3], .ref p :: st, w, k, n) = go (rd g w p) 4 fun fs => ∃ v, fs[1]? = some v ∧ WP (MX1_shift g) Q (19, [l0, l1, l2, l3], v :: st, w, k, n) := get_e rfl (dt_q dX1_shift_0_D 12 rfl) rfl
theorem eX1_shift_19 : WP (MX1_shift g) Q (19, [l0, l1, some (.int a), l3], st, w, k, n) = WP (MX1_shift g) Q (20, [l0, l1, some (.int a), l3], .int a :: st, w, k, n) := iln_e rfl (dt_q dX1_shift_0_D 13 rfl) rfl
theorem eX1_shift_20 : WP (MX1_shift g) Q (20, [l0, l1, l2, l3], .int a :: st, w, k, n) = WP (MX1_shift g) Q (21, [l0, l1, l2, l3], .long a.toInt64 :: st, w, k, n) := i2l_e rfl (dt_q dX1_shift_0_D 14 rfl)
theorem eX1_shift_21 : WP (MX1_shift g) Q (21, [l0, l1, l2, l3], .long y :: .long x :: st, w, k, n) = WP (MX1_shift g) Q (22, [l0, l1, l2, l3], .long (x + y) :: st, w, k, n) := ladd_e rfl (dt_q dX1_shift_0_D 15 rfl)
theorem eX1_shift_22 : WP (MX1_shift g) Q (22, [l0, l1, l2, some (.ref p)], st, w, k, n) = WP (MX1_shift g) Q (23, [l0, l1, l2, some (.ref p)], .ref p :: st, w, k, n) := alnR_e rfl (dt_q dX1_shift_0_D 16 rfl) rfl
theorem eX1_shift_22N : WP (MX1_shift g) Q (22, [l0, l1, l2, some .null], st, w, k, n) = WP (MX1_shift g) Q (23, [l0, l1, l2, some .null], .null :: st, w, k, n) := alnN_e rfl (dt_q dX1_shift_0_D 16 rfl) rfl
theorem eX1_shift_23 : WP (MX1_shift g) Q (23, [l0, l1, l2, l3], .ref p :: st, w, k, n) = go (rd g w p) 4 fun fs => ∃ v, fs[2]? = some v ∧ WP (MX1_shift g) Q (26, [l0, l1, l2, l3], v :: st, w, k, n) := get_e rfl (dt_q dX1_shift_0_D 17 rfl) rfl
theorem eX1_shift_26 : WP (MX1_shift g) Q (26, [l0, l1, some (.int a), l3], st, w, k, n) = WP (MX1_shift g) Q (27, [l0, l1, some (.int a), l3], .int a :: st, w, k, n) := iln_e rfl (dt_q dX1_shift_0_D 18 rfl) rfl
theorem eX1_shift_27 : WP (MX1_shift g) Q (27, [l0, l1, l2, l3], .int a :: st, w, k, n) = WP (MX1_shift g) Q (28, [l0, l1, l2, l3], .long a.toInt64 :: st, w, k, n) := i2l_e rfl (dt_q dX1_shift_0_D 19 rfl)
theorem eX1_shift_28 : WP (MX1_shift g) Q (28, [l0, l1, l2, l3], .long y :: .long x :: st, w, k, n) = WP (MX1_shift g) Q (29, [l0, l1, l2, l3], .long (x + y) :: st, w, k, n) := ladd_e rfl (dt_q dX1_shift_0_D 20 rfl)
theorem eX1_shift_29 : WP (MX1_shift g) Q (29, [l0, l1, l2, some (.ref p)], st, w, k, n) = WP (MX1_shift g) Q (30, [l0, l1, l2, some (.ref p)], .ref p :: st, w, k, n) := alnR_e rfl (dt_q dX1_shift_0_D 21 rfl) rfl
theorem eX1_shift_29N : WP (MX1_shift g) Q (29, [l0, l1, l2, some .null], st, w, k, n) = WP (MX1_shift g) Q (30, [l0, l1, l2, some .null], .null :: st, w, k, n) := alnN_e rfl (dt_q dX1_shift_0_D 21 rfl) rfl
theorem eX1_shift_30 : WP (MX1_shift g) Q (30, [l0, l1, l2, l3], .ref p :: st, w, k, n) = go (rd g w p) 4 fun fs => ∃ v, fs[3]? = some v ∧ WP (MX1_shift g) Q (33, [l0, l1, l2, l3], v :: st, w, k, n) := get_e rfl (dt_q dX1_shift_0_D 22 rfl) rfl
theorem eX1_shift_33 : WP (MX1_shift g) Q (33, [l0, l1, some (.int a), l3], st, w, k, n) = WP (MX1_shift g) Q (34, [l0, l1, some (.int a), l3], .int a :: st, w, k, n) := iln_e rfl (dt_q dX1_shift_0_D 23 rfl) rfl
theorem eX1_shift_34 : WP (MX1_shift g) Q (34, [l0, l1, l2, l3], .int a :: st, w, k, n) = WP (MX1_shift g) Q (35, [l0, l1, l2, l3], .long a.toInt64 :: st, w, k, n) := i2l_e rfl (dt_q dX1_shift_0_D 24 rfl)
theorem eX1_shift_35 : WP (MX1_shift g) Q (35, [l0, l1, l2, l3], .long y :: .long x :: st, w, k, n) = WP (MX1_shift g) Q (36, [l0, l1, l2, l3], .long (x + y) :: st, w, k, n) := ladd_e rfl (dt_q dX1_shift_0_D 25 rfl)
theorem eX1_shift_36 {z0 : Int64} {z1 : Int64} {z2 : Int64} {z3 : Int64} : WP (MX1_shift g) Q (36, [l0, l1, l2, l3], .long z3 :: .long z2 :: .long z1 :: .long z0 :: st, w, k, n) = (wt st ≤ 8 ∧ k + 1 ≤ 3 ∧ n + 4 ≤ 16 ∧ WP (MX0_ofFour g) (kx (fun v w' => WP (MX1_shift g) Q (39, [l0, l1, l2, l3], v.toList ++ st, w', k + 1, n + 4)) (fun E w' => Q (.inr E) w')) (0, [some (.long z0), none, some (.long z1), none, some (.long z2), none, some (.long z3), none], [], w, 0, 0)) := csS0 (M := (MX1_shift g)) (mc := (fun _ _ => 1)) (ms := (fun _ _ => 4)) (As := [.long z0, .long z1, .long z2, .long z3]) (rest := st) (MX0_ofFour g) rfl rfl rfl (dt_q dX1_shift_0_D 26 rfl) rfl rfl rfl rfl rfl rfl rfl
theorem eX1_shift_39R {z0 : Int32} {z1 : Nat} : WP (MX1_shift g) Q (39, [l0, l1, l2, l3], .ref z1 :: .int z0 :: .ref p :: st, w, k, n) = (go (rd g w p) 5 (fun _ => True) ∧ wt st ≤ 8 ∧ k + 0 ≤ 3 ∧ n + 0 ≤ 16 ∧ WP (MX1_give g) (kx (fun v w' => WP (MX1_shift g) Q (42, [l0, l1, l2, l3], v.toList ++ st, w', k + 0, n + 0)) (fun E w' => Q (.inr E) w')) (0, [some (.ref p), some (.int z0), some (.ref z1)], [], w, 0, 0)) := csV0 (M := (MX1_shift g)) (mc := (fun _ _ => 0)) (ms := (fun _ _ => 0)) (As := [.int z0, .ref z1]) (rest := st) (MX1_give g) rfl rfl rfl (dt_q dX1_shift_0_D 27 rfl) rfl rfl rfl rfl rfl rfl
theorem eX1_shift_39N {z0 : Int32} : WP (MX1_shift g) Q (39, [l0, l1, l2, l3], .null :: .int z0 :: .ref p :: st, w, k, n) = (go (rd g w p) 5 (fun _ => True) ∧ wt st ≤ 8 ∧ k + 0 ≤ 3 ∧ n + 0 ≤ 16 ∧ WP (MX1_give g) (kx (fun v w' => WP (MX1_shift g) Q (42, [l0, l1, l2, l3], v.toList ++ st, w', k + 0, n + 0)) (fun E w' => Q (.inr E) w')) (0, [some (.ref p), some (.int z0), some .null], [], w, 0, 0)) := csV0 (M := (MX1_shift g)) (mc := (fun _ _ => 0)) (ms := (fun _ _ => 0)) (As := [.int z0, .null]) (rest := st) (MX1_give g) rfl rfl rfl (dt_q dX1_shift_0_D 27 rfl) rfl rfl rfl rfl rfl rfl
theorem eX1_shift_42 : WP (MX1_shift g) Q (42, [l0, l1, l2, l3], [.int a], w, k, n) = (k ≤ 3 ∧ n ≤ 16 ∧ Q (.inl (some (.int a))) w) := iretI_e rfl (dt_q dX1_shift_0_D 28 rfl) rfl
end
theorem vMX1_shift {l : Launch} (hl : l.stackTraces = false) (G : GT) : vM l G (MX1_shift (gg G)) := vM_k RX1 cX1_shift rfl rfl (all_c (vF_RX1_124) (all_c (vF_RX1_117) (all_c (vF_RX1_121) (all_c (vF_RX1_127) (all_n))))) all_n all_n all_n all_n (fun h => absurd rfl h) (all_c (kc_123 hl wk_874) (all_c (kc_82 hl (⟨"Rangecard", tm_1 (List.mem_of_getElem? (i := 89) rfl)⟩)) (all_c (kc_121 hl wk_820) (all_n)))) all_n all_n (fun h => absurd rfl h) rfl all_n
theorem okX1_shift {l : Launch} (hl : l.stackTraces = false) {G : GT} : ∀ (args : List Value) (w : Hw) (S : Ot → Hw → Prop), spOf (MX1_shift (gg G)) args w S → CX l G yX1_shift (.code yX1_shift cX1_shift 4 (some .int)) 8 3 16 args w S := CX_sp (M := MX1_shift (gg G)) (y := yX1_shift) hl (by decide) rfl (vMX1_shift hl G) (fun h => by cases h) rfl
end
/-! 66.class13.lean.txt -/
section
abbrev dX1_drop_0_T : List (Nat × Instr × Nat) := [(0, .iload_n 1, 1), (1, .invokestatic 79, 3), (4, .aload_n 0, 1), (5, .getfield 15, 3), (8, .iload_n 1, 1), (9, .aaload, 1), (10, .ifnull 7, 3), (13, .iconst 1, 1), (14, .goto 4, 3), (17, .iconst 0, 1), (18, .invokestatic 130, 3), (21, .istore_n 2, 1), (22, .aload_n 0, 1), (23, .getfield 15, 3), (26, .iload_n 1, 1), (27, .aconst_null, 1), (28, .aastore, 1), (29, .iload_n 2, 1), (30, .ireturn, 1)]
theorem dX1_drop_0_D : dtc cX1_drop dX1_drop_0_T = true := by decide +kernel
def MX1_drop (g : RO) : MT := ((RX1, cX1_drop, 3, 7, 1, 6, false, some .int), [(15, 5, 1)], [], [], [], [], 0, [(79, 0, 1, 0, 6, (fun _ _ => 1), (fun _ _ => 6), yX1_needCard, spOf (MX1_needCard g)), (130, 0, 1, 0, 1, (fun _ _ => 0), (fun _ _ => 0), yX1_asNumber, spOf (MX1_asNumber g))], [], [], 0, [], [], g)
section
variable {g : RO} {Q : Ot → Hw → Prop} {st : List Value} {w : Hw} {k n p q : Nat} {a b : Int32} {x y : Int64} {u v : Value} {l0 l1 l2 : Option Value}
theorem eX1_drop_0 : WP (MX1_drop g) Q (0, [l0, some (.int a), l2], st, w, k, n) = WP (MX1_drop g) Q (1, [l0, some (.int a), l2], .int a :: st, w, k, n) := iln_e rfl (dt_q dX1_drop_0_D 0 rfl) rfl
theorem eX1_drop_1 {z0 : Int32} : WP (MX1_drop g) Q (1, [l0, l1, l2], .int z0 :: st, w, k, n) = (wt st ≤ 8 ∧ k + 1 ≤ 1 ∧ n + 6 ≤ 6 ∧ WP (MX1_needCard g) (kx (fun v w' => WP (MX1_drop g) Q (4, [l0, l1, l2], v.toList ++ st, w', k + 1, n + 6)) (fun E w' => Q (.inr E) w')) (0, [some (.int z0)], [], w, 0, 0)) := csS0 (M := (MX1_drop g)) (mc := (fun _ _ => 1)) (ms := (fun _ _ => 6)) (As := [.int z0]) (rest := st) (MX1_needCard g) rfl rfl rfl (dt_q dX1_drop_0_D 1 rfl) rfl rfl rfl rfl rfl rfl rfl
theorem eX1_drop_4 : WP (MX1_drop g) Q (4, [some (.ref p), l1, l2], st, w, k, n) = WP (MX1_drop g) Q (5, [some (.ref p), l1, l2], .ref p :: st, w, k, n) := alnR_e rfl (dt_q dX1_drop_0_D 2 rfl) rfl
theorem eX1_drop_4N : WP (MX1_drop g) Q (4, [some .null, l1, l2], st, w, k, n) = WP (MX1_drop g) Q (5, [some .null, l1, l2], .null :: st, w, k, n) := alnN_e rfl (dt_q dX1_drop_0_D 2 rfl) rfl
theorem eX1_drop_5 : WP (MX1_drop g) Q (5, [l0, l1, l2], .ref p :: st, w, k, n) = go (rd g w p) 5 fun fs => ∃ v, fs[1]? = some v ∧ WP (MX1_drop g) Q (8, [l0, l1, l2], v :: st, w, k, n) := get_e rfl (dt_q dX1_drop_0_D 3 rfl) rfl
theorem eX1_drop_8 : WP (MX1_drop g) Q (8, [l0, some (.int a), l2], st, w, k, n) = WP (MX1_drop g) Q (9, [l0, some (.int a), l2], .int a :: st, w, k, n) := iln_e rfl (dt_q dX1_drop_0_D 4 rfl) rfl
theorem eX1_drop_9 : WP (MX1_drop g) Q (9, [l0, l1, l2], .int a :: .ref p :: st, w, k, n) = gq (rd g w p) fun t N f => (t = 4 ∨ t = 5) ∧ vp_in a N ∧ WP (MX1_drop g) Q (10, [l0, l1, l2], va_rf (f a.toNatClampNeg) :: st, w, k, n) := aaload_e rfl (dt_q dX1_drop_0_D 5 rfl)
theorem eX1_drop_10R : WP (MX1_drop g) Q (10, [l0, l1, l2], .ref p :: st, w, k, n) = WP (MX1_drop g) Q (13, [l0, l1, l2], st, w, k, n) := ifnullR_e rfl (dt_q dX1_drop_0_D 6 rfl) (tgt := 17) (by decide)
theorem eX1_drop_10N : WP (MX1_drop g) Q (10, [l0, l1, l2], .null :: st, w, k, n) = WP (MX1_drop g) Q (17, [l0, l1, l2], st, w, k, n) := ifnullN_e rfl (dt_q dX1_drop_0_D 6 rfl) (tgt := 17) (by decide)
theorem eX1_drop_13 : WP (MX1_drop g) Q (13, [l0, l1, l2], st, w, k, n) = WP (MX1_drop g) Q (14, [l0, l1, l2], .int 1 :: st, w, k, n) := ic_1 rfl (dt_q dX1_drop_0_D 7 rfl)
theorem eX1_drop_14 : WP (MX1_drop g) Q (14, [l0, l1, l2], st, w, k, n) = WP (MX1_drop g) Q (18, [l0, l1, l2], st, w, k, n) := goto_e rfl (dt_q dX1_drop_0_D 8 rfl) (by decide)
theorem eX1_drop_17 : WP (MX1_drop g) Q (17, [l0, l1, l2], st, w, k, n) = WP (MX1_drop g) Q (18, [l0, l1, l2], .int 0 :: st, w, k, n) := ic_0 rfl (dt_q dX1_drop_0_D 9 rfl)
theorem eX1_drop_18 {z0 : Int32} : WP (MX1_drop g) Q (18, [l0, l1, l2], .int z0 :: st, w, k, n) = (wt st ≤ 8 ∧ k + 0 ≤ 1 ∧ n + 0 ≤ 6 ∧ WP (MX1_asNumber g) (kx (fun v w' => WP (MX1_drop g) Q (21, [l0, l1, l2], v.toList ++ st, w', k + 0, n + 0)) (fun E w' => Q (.inr E) w')) (0, [some (.int z0)], [], w, 0, 0)) := csS0 (M := (MX1_drop g)) (mc := (fun _ _ => 0)) (ms := (fun _ _ => 0)) (As := [.int z0]) (rest := st) (MX1_asNumber g) rfl rfl rfl (dt_q dX1_drop_0_D 10 rfl) rfl rfl rfl rfl rfl rfl rfl
theorem eX1_drop_21 : WP (MX1_drop g) Q (21, [l0, l1, l2], .int a :: st, w, k, n) = WP (MX1_drop g) Q (22, [l0, nl l1, some (.int a)], st, w, k, n) := isn_e rfl (dt_q dX1_drop_0_D 11 rfl) rfl rfl
theorem eX1_drop_22 : WP (MX1_drop g) Q (22, [some (.ref p), l1, l2], st, w, k, n) = WP (MX1_drop g) Q (23, [some (.ref p), l1, l2], .ref p :: st, w, k, n) := alnR_e rfl (dt_q dX1_drop_0_D 12 rfl) rfl
theorem eX1_drop_22N : WP (MX1_drop g) Q (22, [some .null, l1, l2], st, w, k, n) = WP (MX1_drop g) Q (23, [some .null, l1, l2], .null :: st, w, k, n) := alnN_e rfl (dt_q dX1_drop_0_D 12 rfl) rfl
theorem eX1_drop_23 : WP (MX1_drop g) Q (23, [l0, l1, l2], .ref p :: st, w, k, n) = go (rd g w p) 5 fun fs => ∃ v, fs[1]? = some v ∧ WP (MX1_drop g) Q (26, [l0, l1, l2], v :: st, w, k, n) := get_e rfl (dt_q dX1_drop_0_D 13 rfl) rfl
theorem eX1_drop_26 : WP (MX1_drop g) Q (26, [l0, some (.int a), l2], st, w, k, n) = WP (MX1_drop g) Q (27, [l0, some (.int a), l2], .int a :: st, w, k, n) := iln_e rfl (dt_q dX1_drop_0_D 14 rfl) rfl
theorem eX1_drop_27 : WP (MX1_drop g) Q (27, [l0, l1, l2], st, w, k, n) = WP (MX1_drop g) Q (28, [l0, l1, l2], .null :: st, w, k, n) := acn_e rfl (dt_q dX1_drop_0_D 15 rfl)
theorem eX1_drop_28N : WP (MX1_drop g) Q (28, [l0, l1, l2], .null :: .int a :: .ref p :: st, w, k, n) = gq (w p) fun t N f => vp_in a N ∧ (t = 4 ∨ t = 5) ∧ WP (MX1_drop g) Q (29, [l0, l1, l2], st, upw w p (.inl (t, N, .inr (.inr (.inr (.inr (va_up f a.toNatClampNeg none)))))), k, n) := aastN_e rfl (dt_q dX1_drop_0_D 16 rfl)
theorem eX1_drop_28R : WP (MX1_drop g) Q (28, [l0, l1, l2], .ref q :: .int a :: .ref p :: st, w, k, n) = gq (w p) fun t N f => vp_in a N ∧ ((t = 4 ∧ go (w q) 4 fun _ => True) ∨ (t = 5 ∧ gl (w q) 0 fun _ _ => True)) ∧ WP (MX1_drop g) Q (29, [l0, l1, l2], st, upw w p (.inl (t, N, .inr (.inr (.inr (.inr (va_up f a.toNatClampNeg (some q))))))), k, n) := aastR_e rfl (dt_q dX1_drop_0_D 16 rfl)
theorem eX1_drop_29 : WP (MX1_drop g) Q (29, [l0, l1, some (.int a)], st, w, k, n) = WP (MX1_drop g) Q (30, [l0, l1, some (.int a)], .int a :: st, w, k, n) := iln_e rfl (dt_q dX1_drop_0_D 17 rfl) rfl
theorem eX1_drop_30 : WP (MX1_drop g) Q (30, [l0, l1, l2], [.int a], w, k, n) = (k ≤ 1 ∧ n ≤ 6 ∧ Q (.inl (some (.int a))) w) := iretI_e rfl (dt_q dX1_drop_0_D 18 rfl) rfl
end
theorem vMX1_drop {l : Launch} (hl : l.stackTraces = false) (G : GT) : vM l G (MX1_drop (gg G)) := vM_k RX1 cX1_drop rfl rfl (all_c (vF_RX1_15) (all_n)) all_n all_n all_n all_n (fun h => absurd rfl h) (all_c (kc_78 hl wk_816) (all_c (kc_86 hl wk_261) (all_n))) all_n all_n (fun h => absurd rfl h) rfl all_n
theorem okX1_drop {l : Launch} (hl : l.stackTraces = false) {G : GT} : ∀ (args : List Value) (w : Hw) (S : Ot → Hw → Prop), spOf (MX1_drop (gg G)) args w S → CX l G yX1_drop (.code yX1_drop cX1_drop 3 (some .int)) 7 1 6 args w S := CX_sp (M := MX1_drop (gg G)) (y := yX1_drop) hl (by decide) rfl (vMX1_drop hl G) (fun h => by cases h) rfl
abbrev dX1_isThere_0_T : List (Nat × Instr × Nat) := [(0, .iload_n 1, 1), (1, .invokestatic 79, 3), (4, .aload_n 0, 1), (5, .getfield 15, 3), (8, .iload_n 1, 1), (9, .aaload, 1), (10, .ifnull 7, 3), (13, .iconst 1, 1), (14, .goto 4, 3), (17, .iconst 0, 1), (18, .ireturn, 1)]
theorem dX1_isThere_0_D : dtc cX1_isThere dX1_isThere_0_T = true := by decide +kernel
def MX1_isThere (g : RO) : MT := ((RX1, cX1_isThere, 2, 7, 1, 6, false, some .boolean), [(15, 5, 1)], [], [], [], [], 0, [(79, 0, 1, 0, 6, (fun _ _ => 1), (fun _ _ => 6), yX1_needCard, spOf (MX1_needCard g))], [], [], 0, [], [], g)
section
variable {g : RO} {Q : Ot → Hw → Prop} {st : List Value} {w : Hw} {k n p q : Nat} {a b : Int32} {x y : Int64} {u v : Value} {l0 l1 : Option Value}
theorem eX1_isThere_0 : WP (MX1_isThere g) Q (0, [l0, some (.int a)], st, w, k, n) = WP (MX1_isThere g) Q (1, [l0, some (.int a)], .int a :: st, w, k, n) := iln_e rfl (dt_q dX1_isThere_0_D 0 rfl) rfl
theorem eX1_isThere_1 {z0 : Int32} : WP (MX1_isThere g) Q (1, [l0, l1], .int z0 :: st, w, k, n) = (wt st ≤ 8 ∧ k + 1 ≤ 1 ∧ n + 6 ≤ 6 ∧ WP (MX1_needCard g) (kx (fun v w' => WP (MX1_isThere g) Q (4, [l0, l1], v.toList ++ st, w', k + 1, n + 6)) (fun E w' => Q (.inr E) w')) (0, [some (.int z0)], [], w, 0, 0)) := csS0 (M := (MX1_isThere g)) (mc := (fun _ _ => 1)) (ms := (fun _ _ => 6)) (As := [.int z0]) (rest := st) (MX1_needCard g) rfl rfl rfl (dt_q dX1_isThere_0_D 1 rfl) rfl rfl rfl rfl rfl rfl rfl
theorem eX1_isThere_4 : WP (MX1_isThere g) Q (4, [some (.ref p), l1], st, w, k, n) = WP (MX1_isThere g) Q (5, [some (.ref p), l1], .ref p :: st, w, k, n) := alnR_e rfl (dt_q dX1_isThere_0_D 2 rfl) rfl
theorem eX1_isThere_4N : WP (MX1_isThere g) Q (4, [some .null, l1], st, w, k, n) = WP (MX1_isThere g) Q (5, [some .null, l1], .null :: st, w, k, n) := alnN_e rfl (dt_q dX1_isThere_0_D 2 rfl) rfl
theorem eX1_isThere_5 : WP (MX1_isThere g) Q (5, [l0, l1], .ref p :: st, w, k, n) = go (rd g w p) 5 fun fs => ∃ v, fs[1]? = some v ∧ WP (MX1_isThere g) Q (8, [l0, l1], v :: st, w, k, n) := get_e rfl (dt_q dX1_isThere_0_D 3 rfl) rfl
theorem eX1_isThere_8 : WP (MX1_isThere g) Q (8, [l0, some (.int a)], st, w, k, n) = WP (MX1_isThere g) Q (9, [l0, some (.int a)], .int a :: st, w, k, n) := iln_e rfl (dt_q dX1_isThere_0_D 4 rfl) rfl
theorem eX1_isThere_9 : WP (MX1_isThere g) Q (9, [l0, l1], .int a :: .ref p :: st, w, k, n) = gq (rd g w p) fun t N f => (t = 4 ∨ t = 5) ∧ vp_in a N ∧ WP (MX1_isThere g) Q (10, [l0, l1], va_rf (f a.toNatClampNeg) :: st, w, k, n) := aaload_e rfl (dt_q dX1_isThere_0_D 5 rfl)
theorem eX1_isThere_10R : WP (MX1_isThere g) Q (10, [l0, l1], .ref p :: st, w, k, n) = WP (MX1_isThere g) Q (13, [l0, l1], st, w, k, n) := ifnullR_e rfl (dt_q dX1_isThere_0_D 6 rfl) (tgt := 17) (by decide)
theorem eX1_isThere_10N : WP (MX1_isThere g) Q (10, [l0, l1], .null :: st, w, k, n) = WP (MX1_isThere g) Q (17, [l0, l1], st, w, k, n) := ifnullN_e rfl (dt_q dX1_isThere_0_D 6 rfl) (tgt := 17) (by decide)
theorem eX1_isThere_13 : WP (MX1_isThere g) Q (13, [l0, l1], st, w, k, n) = WP (MX1_isThere g) Q (14, [l0, l1], .int 1 :: st, w, k, n) := ic_1 rfl (dt_q dX1_isThere_0_D 7 rfl)
theorem eX1_isThere_14 : WP (MX1_isThere g) Q (14, [l0, l1], st, w, k, n) = WP (MX1_isThere g) Q (18, [l0, l1], st, w, k, n) := goto_e rfl (dt_q dX1_isThere_0_D 8 rfl) (by decide)
theorem eX1_isThere_17 : WP (MX1_isThere g) Q (17, [l0, l1], st, w, k, n) = WP (MX1_isThere g) Q (18, [l0, l1], .int 0 :: st, w, k, n) := ic_0 rfl (dt_q dX1_isThere_0_D 9 rfl)
theorem eX1_isThere_18 : WP (MX1_isThere g) Q (18, [l0, l1], [.int a], w, k, n) = (narrow (.boolean) (.int a) = .int a ∧ k ≤ 1 ∧ n ≤ 6 ∧ Q (.inl (some (.int a))) w) := iret_e rfl (dt_q dX1_isThere_0_D 10 rfl) rfl
end
theorem vMX1_isThere {l : Launch} (hl : l.stackTraces = false) (G : GT) : vM l G (MX1_isThere (gg G)) := vM_k RX1 cX1_isThere rfl rfl (all_c (vF_RX1_15) (all_n)) all_n all_n all_n all_n (fun h => absurd rfl h) (all_c (kc_78 hl wk_816) (all_n)) all_n all_n (fun h => absurd rfl h) rfl all_n
theorem okX1_isThere {l : Launch} (hl : l.stackTraces = false) {G : GT} : ∀ (args : List Value) (w : Hw) (S : Ot → Hw → Prop), spOf (MX1_isThere (gg G)) args w S → CX l G yX1_isThere (.code yX1_isThere cX1_isThere 2 (some .boolean)) 7 1 6 args w S := CX_sp (M := MX1_isThere (gg G)) (y := yX1_isThere) hl (by decide) rfl (vMX1_isThere hl G) (fun h => by cases h) rfl
abbrev dX1_isFixed_0_T : List (Nat × Instr × Nat) := [(0, .aload_n 0, 1), (1, .iload_n 1, 1), (2, .invokevirtual 98, 3), (5, .invokevirtual 134, 3), (8, .ireturn, 1)]
theorem dX1_isFixed_0_D : dtc cX1_isFixed dX1_isFixed_0_T = true := by decide +kernel
def MX1_isFixed (g : RO) : MT := ((RX1, cX1_isFixed, 2, 8, 2, 12, false, some .boolean), [], [], [], [], [], 0, [(98, 2, 2, 5, 7, (fun _ _ => 2), (fun _ _ => 12), yX1_rangeOf, spOf (MX1_rangeOf g)), (134, 3, 1, 4, 1, (fun _ _ => 0), (fun _ _ => 0), yX0_isSettled, spOf (MX0_isSettled g))], [], [], 0, [], [], g)
section
variable {g : RO} {Q : Ot → Hw → Prop} {st : List Value} {w : Hw} {k n p q : Nat} {a b : Int32} {x y : Int64} {u v : Value} {l0 l1 : Option Value}
theorem eX1_isFixed_0 : WP (MX1_isFixed g) Q (0, [some (.ref p), l1], st, w, k, n) = WP (MX1_isFixed g) Q (1, [some (.ref p), l1], .ref p :: st, w, k, n) := alnR_e rfl (dt_q dX1_isFixed_0_D 0 rfl) rfl
theorem eX1_isFixed_0N : WP (MX1_isFixed g) Q (0, [some .null, l1], st, w, k, n) = WP (MX1_isFixed g) Q (1, [some .null, l1], .null :: st, w, k, n) := alnN_e rfl (dt_q dX1_isFixed_0_D 0 rfl) rfl
theorem eX1_isFixed_1 : WP (MX1_isFixed g) Q (1, [l0, some (.int a)], st, w, k, n) = WP (MX1_isFixed g) Q (2, [l0, some (.int a)], .int a :: st, w, k, n) := iln_e rfl (dt_q dX1_isFixed_0_D 1 rfl) rfl
theorem eX1_isFixed_2 {z0 : Int32} : WP (MX1_isFixed g) Q (2, [l0, l1], .int z0 :: .ref p :: st, w, k, n) = (go (rd g w p) 5 (fun _ => True) ∧ wt st ≤ 8 ∧ k + 2 ≤ 2 ∧ n + 12 ≤ 12 ∧ WP (MX1_rangeOf g) (kx (fun v w' => WP (MX1_isFixed g) Q (5, [l0, l1], v.toList ++ st, w', k + 2, n + 12)) (fun E w' => Q (.inr E) w')) (0, [some (.ref p), some (.int z0), none], [], w, 0, 0)) := csV0 (M := (MX1_isFixed g)) (mc := (fun _ _ => 2)) (ms := (fun _ _ => 12)) (As := [.int z0]) (rest := st) (MX1_rangeOf g) rfl rfl rfl (dt_q dX1_isFixed_0_D 2 rfl) rfl rfl rfl rfl rfl rfl
theorem eX1_isFixed_5  : WP (MX1_isFixed g) Q (5, [l0, l1], .ref p :: st, w, k, n) = (go (rd g w p) 4 (fun _ => True) ∧ wt st ≤ 8 ∧ k + 0 ≤ 2 ∧ n + 0 ≤ 12 ∧ WP (MX0_isSettled g) (kx (fun v w' => WP (MX1_isFixed g) Q (8, [l0, l1], v.toList ++ st, w', k + 0, n + 0)) (fun E w' => Q (.inr E) w')) (0, [some (.ref p)], [], w, 0, 0)) := csV0 (M := (MX1_isFixed g)) (mc := (fun _ _ => 0)) (ms := (fun _ _ => 0)) (As := []) (rest := st) (MX0_isSettled g) rfl rfl rfl (dt_q dX1_isFixed_0_D 3 rfl) rfl rfl rfl rfl rfl rfl
theorem eX1_isFixed_8 : WP (MX1_isFixed g) Q (8, [l0, l1], [.int a], w, k, n) = (narrow (.boolean) (.int a) = .int a ∧ k ≤ 2 ∧ n ≤ 12 ∧ Q (.inl (some (.int a))) w) := iret_e rfl (dt_q dX1_isFixed_0_D 4 rfl) rfl
end
theorem vMX1_isFixed {l : Launch} (hl : l.stackTraces = false) (G : GT) : vM l G (MX1_isFixed (gg G)) := vM_k RX1 cX1_isFixed rfl rfl all_n all_n all_n all_n all_n (fun h => absurd rfl h) (all_c (kc_123 hl wk_874) (all_c (kc_90 hl (⟨"Rangecard", tm_1 (List.mem_of_getElem? (i := 127) rfl)⟩)) (all_n))) all_n all_n (fun h => absurd rfl h) rfl all_n
theorem okX1_isFixed {l : Launch} (hl : l.stackTraces = false) {G : GT} : ∀ (args : List Value) (w : Hw) (S : Ot → Hw → Prop), spOf (MX1_isFixed (gg G)) args w S → CX l G yX1_isFixed (.code yX1_isFixed cX1_isFixed 2 (some .boolean)) 8 2 12 args w S := CX_sp (M := MX1_isFixed (gg G)) (y := yX1_isFixed) hl (by decide) rfl (vMX1_isFixed hl G) (fun h => by cases h) rfl
abbrev dX1_isSmall_0_T : List (Nat × Instr × Nat) := [(0, .aload_n 0, 1), (1, .iload_n 1, 1), (2, .invokevirtual 98, 3), (5, .invokevirtual 138, 3), (8, .ireturn, 1)]
theorem dX1_isSmall_0_D : dtc cX1_isSmall dX1_isSmall_0_T = true := by decide +kernel
def MX1_isSmall (g : RO) : MT := ((RX1, cX1_isSmall, 2, 8, 2, 12, false, some .boolean), [], [], [], [], [], 0, [(98, 2, 2, 5, 7, (fun _ _ => 2), (fun _ _ => 12), yX1_rangeOf, spOf (MX1_rangeOf g)), (138, 3, 1, 4, 1, (fun _ _ => 0), (fun _ _ => 0), yX0_fitsSmall, spOf (MX0_fitsSmall g))], [], [], 0, [], [], g)
section
variable {g : RO} {Q : Ot → Hw → Prop} {st : List Value} {w : Hw} {k n p q : Nat} {a b : Int32} {x y : Int64} {u v : Value} {l0 l1 : Option Value}
theorem eX1_isSmall_0 : WP (MX1_isSmall g) Q (0, [some (.ref p), l1], st, w, k, n) = WP (MX1_isSmall g) Q (1, [some (.ref p), l1], .ref p :: st, w, k, n) := alnR_e rfl (dt_q dX1_isSmall_0_D 0 rfl) rfl
theorem eX1_isSmall_0N : WP (MX1_isSmall g) Q (0, [some .null, l1], st, w, k, n) = WP (MX1_isSmall g) Q (1, [some .null, l1], .null :: st, w, k, n) := alnN_e rfl (dt_q dX1_isSmall_0_D 0 rfl) rfl
theorem eX1_isSmall_1 : WP (MX1_isSmall g) Q (1, [l0, some (.int a)], st, w, k, n) = WP (MX1_isSmall g) Q (2, [l0, some (.int a)], .int a :: st, w, k, n) := iln_e rfl (dt_q dX1_isSmall_0_D 1 rfl) rfl
theorem eX1_isSmall_2 {z0 : Int32} : WP (MX1_isSmall g) Q (2, [l0, l1], .int z0 :: .ref p :: st, w, k, n) = (go (rd g w p) 5 (fun _ => True) ∧ wt st ≤ 8 ∧ k + 2 ≤ 2 ∧ n + 12 ≤ 12 ∧ WP (MX1_rangeOf g) (kx (fun v w' => WP (MX1_isSmall g) Q (5, [l0, l1], v.toList ++ st, w', k + 2, n + 12)) (fun E w' => Q (.inr E) w')) (0, [some (.ref p), some (.int z0), none], [], w, 0, 0)) := csV0 (M := (MX1_isSmall g)) (mc := (fun _ _ => 2)) (ms := (fun _ _ => 12)) (As := [.int z0]) (rest := st) (MX1_rangeOf g) rfl rfl rfl (dt_q dX1_isSmall_0_D 2 rfl) rfl rfl rfl rfl rfl rfl
theorem eX1_isSmall_5  : WP (MX1_isSmall g) Q (5, [l0, l1], .ref p :: st, w, k, n) = (go (rd g w p) 4 (fun _ => True) ∧ wt st ≤ 8 ∧ k + 0 ≤ 2 ∧ n + 0 ≤ 12 ∧ WP (MX0_fitsSmall g) (kx (fun v w' => WP (MX1_isSmall g) Q (8, [l0, l1], v.toList ++ st, w', k + 0, n + 0)) (fun E w' => Q (.inr E) w')) (0, [some (.ref p)], [], w, 0, 0)) := csV0 (M := (MX1_isSmall g)) (mc := (fun _ _ => 0)) (ms := (fun _ _ => 0)) (As := []) (rest := st) (MX0_fitsSmall g) rfl rfl rfl (dt_q dX1_isSmall_0_D 3 rfl) rfl rfl rfl rfl rfl rfl
theorem eX1_isSmall_8 : WP (MX1_isSmall g) Q (8, [l0, l1], [.int a], w, k, n) = (narrow (.boolean) (.int a) = .int a ∧ k ≤ 2 ∧ n ≤ 12 ∧ Q (.inl (some (.int a))) w) := iret_e rfl (dt_q dX1_isSmall_0_D 4 rfl) rfl
end
theorem vMX1_isSmall {l : Launch} (hl : l.stackTraces = false) (G : GT) : vM l G (MX1_isSmall (gg G)) := vM_k RX1 cX1_isSmall rfl rfl all_n all_n all_n all_n all_n (fun h => absurd rfl h) (all_c (kc_123 hl wk_874) (all_c (kc_91 hl (⟨"Rangecard", tm_1 (List.mem_of_getElem? (i := 165) rfl)⟩)) (all_n))) all_n all_n (fun h => absurd rfl h) rfl all_n
theorem okX1_isSmall {l : Launch} (hl : l.stackTraces = false) {G : GT} : ∀ (args : List Value) (w : Hw) (S : Ot → Hw → Prop), spOf (MX1_isSmall (gg G)) args w S → CX l G yX1_isSmall (.code yX1_isSmall cX1_isSmall 2 (some .boolean)) 8 2 12 args w S := CX_sp (M := MX1_isSmall (gg G)) (y := yX1_isSmall) hl (by decide) rfl (vMX1_isSmall hl G) (fun h => by cases h) rfl
abbrev dX1_end_0_T : List (Nat × Instr × Nat) := [(0, .iload_n 1, 1), (1, .invokestatic 79, 3), (4, .iload_n 2, 1), (5, .iconst 3, 1), (6, .invokestatic 48, 3), (9, .aload_n 0, 1), (10, .iload_n 1, 1), (11, .invokevirtual 98, 3), (14, .iload_n 2, 1), (15, .invokevirtual 141, 3), (18, .iload_n 3, 1), (19, .invokestatic 60, 3), (22, .ireturn, 1)]
theorem dX1_end_0_D : dtc cX1_end dX1_end_0_T = true := by decide +kernel
def MX1_end (g : RO) : MT := ((RX1, cX1_end, 4, 8, 4, 24, false, some .int), [], [], [], [], [], 0, [(79, 0, 1, 0, 6, (fun _ _ => 1), (fun _ _ => 6), yX1_needCard, spOf (MX1_needCard g)), (48, 0, 2, 0, 6, (fun _ _ => 1), (fun _ _ => 6), yX1_needChoice, spOf (MX1_needChoice g)), (98, 2, 2, 5, 7, (fun _ _ => 2), (fun _ _ => 12), yX1_rangeOf, spOf (MX1_rangeOf g)), (141, 3, 2, 4, 1, (fun _ _ => 0), (fun _ _ => 0), yX0_endAt, spOf (MX0_endAt g)), (60, 0, 2, 0, 2, (fun _ _ => 0), (fun _ _ => 0), yX1_halfOf, spOf (MX1_halfOf g))], [], [], 0, [], [], g)
section
variable {g : RO} {Q : Ot → Hw → Prop} {st : List Value} {w : Hw} {k n p q : Nat} {a b : Int32} {x y : Int64} {u v : Value} {l0 l1 l2 l3 : Option Value}
theorem eX1_end_0 : WP (MX1_end g) Q (0, [l0, some (.int a), l2, l3], st, w, k, n) = WP (MX1_end g) Q (1, [l0, some (.int a), l2, l3], .int a :: st, w, k, n) := iln_e rfl (dt_q dX1_end_0_D 0 rfl) rfl
theorem eX1_end_1 {z0 : Int32} : WP (MX1_end g) Q (1, [l0, l1, l2, l3], .int z0 :: st, w, k, n) = (wt st ≤ 8 ∧ k + 1 ≤ 4 ∧ n + 6 ≤ 24 ∧ WP (MX1_needCard g) (kx (fun v w' => WP (MX1_end g) Q (4, [l0, l1, l2, l3], v.toList ++ st, w', k + 1, n + 6)) (fun E w' => Q (.inr E) w')) (0, [some (.int z0)], [], w, 0, 0)) := csS0 (M := (MX1_end g)) (mc := (fun _ _ => 1)) (ms := (fun _ _ => 6)) (As := [.int z0]) (rest := st) (MX1_needCard g) rfl rfl rfl (dt_q dX1_end_0_D 1 rfl) rfl rfl rfl rfl rfl rfl rfl
theorem eX1_end_4 : WP (MX1_end g) Q (4, [l0, l1, some (.int a), l3], st, w, k, n) = WP (MX1_end g) Q (5, [l0, l1, some (.int a), l3], .int a :: st, w, k, n) := iln_e rfl (dt_q dX1_end_0_D 2 rfl) rfl
theorem eX1_end_5 : WP (MX1_end g) Q (5, [l0, l1, l2, l3], st, w, k, n) = WP (MX1_end g) Q (6, [l0, l1, l2, l3], .int 3 :: st, w, k, n) := ic_3 rfl (dt_q dX1_end_0_D 3 rfl)
theorem eX1_end_6 {z0 : Int32} {z1 : Int32} : WP (MX1_end g) Q (6, [l0, l1, l2, l3], .int z1 :: .int z0 :: st, w, k, n) = (wt st ≤ 8 ∧ k + 1 ≤ 4 ∧ n + 6 ≤ 24 ∧ WP (MX1_needChoice g) (kx (fun v w' => WP (MX1_end g) Q (9, [l0, l1, l2, l3], v.toList ++ st, w', k + 1, n + 6)) (fun E w' => Q (.inr E) w')) (0, [some (.int z0), some (.int z1)], [], w, 0, 0)) := csS0 (M := (MX1_end g)) (mc := (fun _ _ => 1)) (ms := (fun _ _ => 6)) (As := [.int z0, .int z1]) (rest := st) (MX1_needChoice g) rfl rfl rfl (dt_q dX1_end_0_D 4 rfl) rfl rfl rfl rfl rfl rfl rfl
theorem eX1_end_9 : WP (MX1_end g) Q (9, [some (.ref p), l1, l2, l3], st, w, k, n) = WP (MX1_end g) Q (10, [some (.ref p), l1, l2, l3], .ref p :: st, w, k, n) := alnR_e rfl (dt_q dX1_end_0_D 5 rfl) rfl
theorem eX1_end_9N : WP (MX1_end g) Q (9, [some .null, l1, l2, l3], st, w, k, n) = WP (MX1_end g) Q (10, [some .null, l1, l2, l3], .null :: st, w, k, n) := alnN_e rfl (dt_q dX1_end_0_D 5 rfl) rfl
theorem eX1_end_10 : WP (MX1_end g) Q (10, [l0, some (.int a), l2, l3], st, w, k, n) = WP (MX1_end g) Q (11, [l0, some (.int a), l2, l3], .int a :: st, w, k, n) := iln_e rfl (dt_q dX1_end_0_D 6 rfl) rfl
theorem eX1_end_11 {z0 : Int32} : WP (MX1_end g) Q (11, [l0, l1, l2, l3], .int z0 :: .ref p :: st, w, k, n) = (go (rd g w p) 5 (fun _ => True) ∧ wt st ≤ 8 ∧ k + 2 ≤ 4 ∧ n + 12 ≤ 24 ∧ WP (MX1_rangeOf g) (kx (fun v w' => WP (MX1_end g) Q (14, [l0, l1, l2, l3], v.toList ++ st, w', k + 2, n + 12)) (fun E w' => Q (.inr E) w')) (0, [some (.ref p), some (.int z0), none], [], w, 0, 0)) := csV0 (M := (MX1_end g)) (mc := (fun _ _ => 2)) (ms := (fun _ _ => 12)) (As := [.int z0]) (rest := st) (MX1_rangeOf g) rfl rfl rfl (dt_q dX1_end_0_D 7 rfl) rfl rfl rfl rfl rfl rfl
theorem eX1_end_14 : WP (MX1_end g) Q (14, [l0, l1, some (.int a), l3], st, w, k, n) = WP (MX1_end g) Q (15, [l0, l1, some (.int a), l3], .int a :: st, w, k, n) := iln_e rfl (dt_q dX1_end_0_D 8 rfl) rfl
theorem eX1_end_15 {z0 : Int32} : WP (MX1_end g) Q (15, [l0, l1, l2, l3], .int z0 :: .ref p :: st, w, k, n) = (go (rd g w p) 4 (fun _ => True) ∧ wt st ≤ 8 ∧ k + 0 ≤ 4 ∧ n + 0 ≤ 24 ∧ WP (MX0_endAt g) (kx (fun v w' => WP (MX1_end g) Q (18, [l0, l1, l2, l3], v.toList ++ st, w', k + 0, n + 0)) (fun E w' => Q (.inr E) w')) (0, [some (.ref p), some (.int z0)], [], w, 0, 0)) := csV0 (M := (MX1_end g)) (mc := (fun _ _ => 0)) (ms := (fun _ _ => 0)) (As := [.int z0]) (rest := st) (MX0_endAt g) rfl rfl rfl (dt_q dX1_end_0_D 9 rfl) rfl rfl rfl rfl rfl rfl
theorem eX1_end_18 : WP (MX1_end g) Q (18, [l0, l1, l2, some (.int a)], st, w, k, n) = WP (MX1_end g) Q (19, [l0, l1, l2, some (.int a)], .int a :: st, w, k, n) := iln_e rfl (dt_q dX1_end_0_D 10 rfl) rfl
theorem eX1_end_19 {z0 : Int64} {z1 : Int32} : WP (MX1_end g) Q (19, [l0, l1, l2, l3], .int z1 :: .long z0 :: st, w, k, n) = (wt st ≤ 8 ∧ k + 0 ≤ 4 ∧ n + 0 ≤ 24 ∧ WP (MX1_halfOf g) (kx (fun v w' => WP (MX1_end g) Q (22, [l0, l1, l2, l3], v.toList ++ st, w', k + 0, n + 0)) (fun E w' => Q (.inr E) w')) (0, [some (.long z0), none, some (.int z1)], [], w, 0, 0)) := csS0 (M := (MX1_end g)) (mc := (fun _ _ => 0)) (ms := (fun _ _ => 0)) (As := [.long z0, .int z1]) (rest := st) (MX1_halfOf g) rfl rfl rfl (dt_q dX1_end_0_D 11 rfl) rfl rfl rfl rfl rfl rfl rfl
theorem eX1_end_22 : WP (MX1_end g) Q (22, [l0, l1, l2, l3], [.int a], w, k, n) = (k ≤ 4 ∧ n ≤ 24 ∧ Q (.inl (some (.int a))) w) := iretI_e rfl (dt_q dX1_end_0_D 12 rfl) rfl
end
theorem vMX1_end {l : Launch} (hl : l.stackTraces = false) (G : GT) : vM l G (MX1_end (gg G)) := vM_k RX1 cX1_end rfl rfl all_n all_n all_n all_n all_n (fun h => absurd rfl h) (all_c (kc_78 hl wk_816) (all_c (kc_117 hl wk_440) (all_c (kc_123 hl wk_874) (all_c (kc_84 hl (⟨"Rangecard", tm_1 (List.mem_of_getElem? (i := 150) rfl)⟩)) (all_c (kc_120 hl wk_489) (all_n)))))) all_n all_n (fun h => absurd rfl h) rfl all_n
theorem okX1_end {l : Launch} (hl : l.stackTraces = false) {G : GT} : ∀ (args : List Value) (w : Hw) (S : Ot → Hw → Prop), spOf (MX1_end (gg G)) args w S → CX l G yX1_end (.code yX1_end cX1_end 4 (some .int)) 8 4 24 args w S := CX_sp (M := MX1_end (gg G)) (y := yX1_end) hl (by decide) rfl (vMX1_end hl G) (fun h => by cases h) rfl
end
/-! 66.class14.lean.txt -/
section
abbrev dX1_take_0_T : List (Nat × Instr × Nat) := [(0, .iload_n 1, 1), (1, .invokestatic 79, 3), (4, .iload_n 3, 1), (5, .invokestatic 35, 3), (8, .iload_n 2, 1), (9, .iconst 3, 1), (10, .invokestatic 48, 3), (13, .aload_n 0, 1), (14, .iload_n 3, 1), (15, .aload_n 0, 1), (16, .iload_n 1, 1), (17, .invokevirtual 98, 3), (20, .iload_n 2, 1), (21, .invokevirtual 141, 3), (24, .invokevirtual 56, 3), (27, .ireturn, 1)]
theorem dX1_take_0_D : dtc cX1_take dX1_take_0_T = true := by decide +kernel
def MX1_take (g : RO) : MT := ((RX1, cX1_take, 4, 8, 5, 30, false, some .int), [], [], [], [], [], 0, [(79, 0, 1, 0, 6, (fun _ _ => 1), (fun _ _ => 6), yX1_needCard, spOf (MX1_needCard g)), (35, 0, 1, 0, 6, (fun _ _ => 1), (fun _ _ => 6), yX1_needNumber, spOf (MX1_needNumber g)), (48, 0, 2, 0, 6, (fun _ _ => 1), (fun _ _ => 6), yX1_needChoice, spOf (MX1_needChoice g)), (98, 2, 2, 5, 7, (fun _ _ => 2), (fun _ _ => 12), yX1_rangeOf, spOf (MX1_rangeOf g)), (141, 3, 2, 4, 1, (fun _ _ => 0), (fun _ _ => 0), yX0_endAt, spOf (MX0_endAt g)), (56, 2, 3, 5, 2, (fun _ _ => 0), (fun _ _ => 0), yX1_putNumber, spOf (MX1_putNumber g))], [], [], 0, [], [], g)
section
variable {g : RO} {Q : Ot → Hw → Prop} {st : List Value} {w : Hw} {k n p q : Nat} {a b : Int32} {x y : Int64} {u v : Value} {l0 l1 l2 l3 : Option Value}
theorem eX1_take_0 : WP (MX1_take g) Q (0, [l0, some (.int a), l2, l3], st, w, k, n) = WP (MX1_take g) Q (1, [l0, some (.int a), l2, l3], .int a :: st, w, k, n) := iln_e rfl (dt_q dX1_take_0_D 0 rfl) rfl
theorem eX1_take_1 {z0 : Int32} : WP (MX1_take g) Q (1, [l0, l1, l2, l3], .int z0 :: st, w, k, n) = (wt st ≤ 8 ∧ k + 1 ≤ 5 ∧ n + 6 ≤ 30 ∧ WP (MX1_needCard g) (kx (fun v w' => WP (MX1_take g) Q (4, [l0, l1, l2, l3], v.toList ++ st, w', k + 1, n + 6)) (fun E w' => Q (.inr E) w')) (0, [some (.int z0)], [], w, 0, 0)) := csS0 (M := (MX1_take g)) (mc := (fun _ _ => 1)) (ms := (fun _ _ => 6)) (As := [.int z0]) (rest := st) (MX1_needCard g) rfl rfl rfl (dt_q dX1_take_0_D 1 rfl) rfl rfl rfl rfl rfl rfl rfl
theorem eX1_take_4 : WP (MX1_take g) Q (4, [l0, l1, l2, some (.int a)], st, w, k, n) = WP (MX1_take g) Q (5, [l0, l1, l2, some (.int a)], .int a :: st, w, k, n) := iln_e rfl (dt_q dX1_take_0_D 2 rfl) rfl
theorem eX1_take_5 {z0 : Int32} : WP (MX1_take g) Q (5, [l0, l1, l2, l3], .int z0 :: st, w, k, n) = (wt st ≤ 8 ∧ k + 1 ≤ 5 ∧ n + 6 ≤ 30 ∧ WP (MX1_needNumber g) (kx (fun v w' => WP (MX1_take g) Q (8, [l0, l1, l2, l3], v.toList ++ st, w', k + 1, n + 6)) (fun E w' => Q (.inr E) w')) (0, [some (.int z0)], [], w, 0, 0)) := csS0 (M := (MX1_take g)) (mc := (fun _ _ => 1)) (ms := (fun _ _ => 6)) (As := [.int z0]) (rest := st) (MX1_needNumber g) rfl rfl rfl (dt_q dX1_take_0_D 3 rfl) rfl rfl rfl rfl rfl rfl rfl
theorem eX1_take_8 : WP (MX1_take g) Q (8, [l0, l1, some (.int a), l3], st, w, k, n) = WP (MX1_take g) Q (9, [l0, l1, some (.int a), l3], .int a :: st, w, k, n) := iln_e rfl (dt_q dX1_take_0_D 4 rfl) rfl
theorem eX1_take_9 : WP (MX1_take g) Q (9, [l0, l1, l2, l3], st, w, k, n) = WP (MX1_take g) Q (10, [l0, l1, l2, l3], .int 3 :: st, w, k, n) := ic_3 rfl (dt_q dX1_take_0_D 5 rfl)
theorem eX1_take_10 {z0 : Int32} {z1 : Int32} : WP (MX1_take g) Q (10, [l0, l1, l2, l3], .int z1 :: .int z0 :: st, w, k, n) = (wt st ≤ 8 ∧ k + 1 ≤ 5 ∧ n + 6 ≤ 30 ∧ WP (MX1_needChoice g) (kx (fun v w' => WP (MX1_take g) Q (13, [l0, l1, l2, l3], v.toList ++ st, w', k + 1, n + 6)) (fun E w' => Q (.inr E) w')) (0, [some (.int z0), some (.int z1)], [], w, 0, 0)) := csS0 (M := (MX1_take g)) (mc := (fun _ _ => 1)) (ms := (fun _ _ => 6)) (As := [.int z0, .int z1]) (rest := st) (MX1_needChoice g) rfl rfl rfl (dt_q dX1_take_0_D 6 rfl) rfl rfl rfl rfl rfl rfl rfl
theorem eX1_take_13 : WP (MX1_take g) Q (13, [some (.ref p), l1, l2, l3], st, w, k, n) = WP (MX1_take g) Q (14, [some (.ref p), l1, l2, l3], .ref p :: st, w, k, n) := alnR_e rfl (dt_q dX1_take_0_D 7 rfl) rfl
theorem eX1_take_13N : WP (MX1_take g) Q (13, [some .null, l1, l2, l3], st, w, k, n) = WP (MX1_take g) Q (14, [some .null, l1, l2, l3], .null :: st, w, k, n) := alnN_e rfl (dt_q dX1_take_0_D 7 rfl) rfl
theorem eX1_take_14 : WP (MX1_take g) Q (14, [l0, l1, l2, some (.int a)], st, w, k, n) = WP (MX1_take g) Q (15, [l0, l1, l2, some (.int a)], .int a :: st, w, k, n) := iln_e rfl (dt_q dX1_take_0_D 8 rfl) rfl
theorem eX1_take_15 : WP (MX1_take g) Q (15, [some (.ref p), l1, l2, l3], st, w, k, n) = WP (MX1_take g) Q (16, [some (.ref p), l1, l2, l3], .ref p :: st, w, k, n) := alnR_e rfl (dt_q dX1_take_0_D 9 rfl) rfl
theorem eX1_take_15N : WP (MX1_take g) Q (15, [some .null, l1, l2, l3], st, w, k, n) = WP (MX1_take g) Q (16, [some .null, l1, l2, l3], .null :: st, w, k, n) := alnN_e rfl (dt_q dX1_take_0_D 9 rfl) rfl
theorem eX1_take_16 : WP (MX1_take g) Q (16, [l0, some (.int a), l2, l3], st, w, k, n) = WP (MX1_take g) Q (17, [l0, some (.int a), l2, l3], .int a :: st, w, k, n) := iln_e rfl (dt_q dX1_take_0_D 10 rfl) rfl
theorem eX1_take_17 {z0 : Int32} : WP (MX1_take g) Q (17, [l0, l1, l2, l3], .int z0 :: .ref p :: st, w, k, n) = (go (rd g w p) 5 (fun _ => True) ∧ wt st ≤ 8 ∧ k + 2 ≤ 5 ∧ n + 12 ≤ 30 ∧ WP (MX1_rangeOf g) (kx (fun v w' => WP (MX1_take g) Q (20, [l0, l1, l2, l3], v.toList ++ st, w', k + 2, n + 12)) (fun E w' => Q (.inr E) w')) (0, [some (.ref p), some (.int z0), none], [], w, 0, 0)) := csV0 (M := (MX1_take g)) (mc := (fun _ _ => 2)) (ms := (fun _ _ => 12)) (As := [.int z0]) (rest := st) (MX1_rangeOf g) rfl rfl rfl (dt_q dX1_take_0_D 11 rfl) rfl rfl rfl rfl rfl rfl
theorem eX1_take_20 : WP (MX1_take g) Q (20, [l0, l1, some (.int a), l3], st, w, k, n) = WP (MX1_take g) Q (21, [l0, l1, some (.int a), l3], .int a :: st, w, k, n) := iln_e rfl (dt_q dX1_take_0_D 12 rfl) rfl
theorem eX1_take_21 {z0 : Int32} : WP (MX1_take g) Q (21, [l0, l1, l2, l3], .int z0 :: .ref p :: st, w, k, n) = (go (rd g w p) 4 (fun _ => True) ∧ wt st ≤ 8 ∧ k + 0 ≤ 5 ∧ n + 0 ≤ 30 ∧ WP (MX0_endAt g) (kx (fun v w' => WP (MX1_take g) Q (24, [l0, l1, l2, l3], v.toList ++ st, w', k + 0, n + 0)) (fun E w' => Q (.inr E) w')) (0, [some (.ref p), some (.int z0)], [], w, 0, 0)) := csV0 (M := (MX1_take g)) (mc := (fun _ _ => 0)) (ms := (fun _ _ => 0)) (As := [.int z0]) (rest := st) (MX0_endAt g) rfl rfl rfl (dt_q dX1_take_0_D 13 rfl) rfl rfl rfl rfl rfl rfl
theorem eX1_take_24 {z0 : Int32} {z1 : Int64} : WP (MX1_take g) Q (24, [l0, l1, l2, l3], .long z1 :: .int z0 :: .ref p :: st, w, k, n) = (go (rd g w p) 5 (fun _ => True) ∧ wt st ≤ 8 ∧ k + 0 ≤ 5 ∧ n + 0 ≤ 30 ∧ WP (MX1_putNumber g) (kx (fun v w' => WP (MX1_take g) Q (27, [l0, l1, l2, l3], v.toList ++ st, w', k + 0, n + 0)) (fun E w' => Q (.inr E) w')) (0, [some (.ref p), some (.int z0), some (.long z1), none], [], w, 0, 0)) := csV0 (M := (MX1_take g)) (mc := (fun _ _ => 0)) (ms := (fun _ _ => 0)) (As := [.int z0, .long z1]) (rest := st) (MX1_putNumber g) rfl rfl rfl (dt_q dX1_take_0_D 14 rfl) rfl rfl rfl rfl rfl rfl
theorem eX1_take_27 : WP (MX1_take g) Q (27, [l0, l1, l2, l3], [.int a], w, k, n) = (k ≤ 5 ∧ n ≤ 30 ∧ Q (.inl (some (.int a))) w) := iretI_e rfl (dt_q dX1_take_0_D 15 rfl) rfl
end
theorem vMX1_take {l : Launch} (hl : l.stackTraces = false) (G : GT) : vM l G (MX1_take (gg G)) := vM_k RX1 cX1_take rfl rfl all_n all_n all_n all_n all_n (fun h => absurd rfl h) (all_c (kc_78 hl wk_816) (all_c (kc_116 hl wk_353) (all_c (kc_117 hl wk_440) (all_c (kc_123 hl wk_874) (all_c (kc_84 hl (⟨"Rangecard", tm_1 (List.mem_of_getElem? (i := 150) rfl)⟩)) (all_c (kc_119 hl wk_464) (all_n))))))) all_n all_n (fun h => absurd rfl h) rfl all_n
theorem okX1_take {l : Launch} (hl : l.stackTraces = false) {G : GT} : ∀ (args : List Value) (w : Hw) (S : Ot → Hw → Prop), spOf (MX1_take (gg G)) args w S → CX l G yX1_take (.code yX1_take cX1_take 4 (some .int)) 8 5 30 args w S := CX_sp (M := MX1_take (gg G)) (y := yX1_take) hl (by decide) rfl (vMX1_take hl G) (fun h => by cases h) rfl
abbrev dX1_isValid_0_T : List (Nat × Instr × Nat) := [(0, .iload_n 1, 1), (1, .invokestatic 79, 3), (4, .iload_n 2, 1), (5, .invokestatic 35, 3), (8, .aload_n 0, 1), (9, .iload_n 1, 1), (10, .invokevirtual 98, 3), (13, .aload_n 0, 1), (14, .getfield 9, 3), (17, .iload_n 2, 1), (18, .laload, 1), (19, .invokevirtual 150, 3), (22, .ireturn, 1)]
theorem dX1_isValid_0_D : dtc cX1_isValid dX1_isValid_0_T = true := by decide +kernel
def MX1_isValid (g : RO) : MT := ((RX1, cX1_isValid, 3, 8, 4, 24, false, some .boolean), [(9, 5, 0)], [], [], [], [], 0, [(79, 0, 1, 0, 6, (fun _ _ => 1), (fun _ _ => 6), yX1_needCard, spOf (MX1_needCard g)), (35, 0, 1, 0, 6, (fun _ _ => 1), (fun _ _ => 6), yX1_needNumber, spOf (MX1_needNumber g)), (98, 2, 2, 5, 7, (fun _ _ => 2), (fun _ _ => 12), yX1_rangeOf, spOf (MX1_rangeOf g)), (150, 3, 2, 4, 1, (fun _ _ => 0), (fun _ _ => 0), yX0_holds, spOf (MX0_holds g))], [], [], 0, [], [], g)
section
variable {g : RO} {Q : Ot → Hw → Prop} {st : List Value} {w : Hw} {k n p q : Nat} {a b : Int32} {x y : Int64} {u v : Value} {l0 l1 l2 : Option Value}
theorem eX1_isValid_0 : WP (MX1_isValid g) Q (0, [l0, some (.int a), l2], st, w, k, n) = WP (MX1_isValid g) Q (1, [l0, some (.int a), l2], .int a :: st, w, k, n) := iln_e rfl (dt_q dX1_isValid_0_D 0 rfl) rfl
theorem eX1_isValid_1 {z0 : Int32} : WP (MX1_isValid g) Q (1, [l0, l1, l2], .int z0 :: st, w, k, n) = (wt st ≤ 8 ∧ k + 1 ≤ 4 ∧ n + 6 ≤ 24 ∧ WP (MX1_needCard g) (kx (fun v w' => WP (MX1_isValid g) Q (4, [l0, l1, l2], v.toList ++ st, w', k + 1, n + 6)) (fun E w' => Q (.inr E) w')) (0, [some (.int z0)], [], w, 0, 0)) := csS0 (M := (MX1_isValid g)) (mc := (fun _ _ => 1)) (ms := (fun _ _ => 6)) (As := [.int z0]) (rest := st) (MX1_needCard g) rfl rfl rfl (dt_q dX1_isValid_0_D 1 rfl) rfl rfl rfl rfl rfl rfl rfl
theorem eX1_isValid_4 : WP (MX1_isValid g) Q (4, [l0, l1, some (.int a)], st, w, k, n) = WP (MX1_isValid g) Q (5, [l0, l1, some (.int a)], .int a :: st, w, k, n) := iln_e rfl (dt_q dX1_isValid_0_D 2 rfl) rfl
theorem eX1_isValid_5 {z0 : Int32} : WP (MX1_isValid g) Q (5, [l0, l1, l2], .int z0 :: st, w, k, n) = (wt st ≤ 8 ∧ k + 1 ≤ 4 ∧ n + 6 ≤ 24 ∧ WP (MX1_needNumber g) (kx (fun v w' => WP (MX1_isValid g) Q (8, [l0, l1, l2], v.toList ++ st, w', k + 1, n + 6)) (fun E w' => Q (.inr E) w')) (0, [some (.int z0)], [], w, 0, 0)) := csS0 (M := (MX1_isValid g)) (mc := (fun _ _ => 1)) (ms := (fun _ _ => 6)) (As := [.int z0]) (rest := st) (MX1_needNumber g) rfl rfl rfl (dt_q dX1_isValid_0_D 3 rfl) rfl rfl rfl rfl rfl rfl rfl
theorem eX1_isValid_8 : WP (MX1_isValid g) Q (8, [some (.ref p), l1, l2], st, w, k, n) = WP (MX1_isValid g) Q (9, [some (.ref p), l1, l2], .ref p :: st, w, k, n) := alnR_e rfl (dt_q dX1_isValid_0_D 4 rfl) rfl
theorem eX1_isValid_8N : WP (MX1_isValid g) Q (8, [some .null, l1, l2], st, w, k, n) = WP (MX1_isValid g) Q (9, [some .null, l1, l2], .null :: st, w, k, n) := alnN_e rfl (dt_q dX1_isValid_0_D 4 rfl) rfl
theorem eX1_isValid_9 : WP (MX1_isValid g) Q (9, [l0, some (.int a), l2], st, w, k, n) = WP (MX1_isValid g) Q (10, [l0, some (.int a), l2], .int a :: st, w, k, n) := iln_e rfl (dt_q dX1_isValid_0_D 5 rfl) rfl
theorem eX1_isValid_10 {z0 : Int32} : WP (MX1_isValid g) Q (10, [l0, l1, l2], .int z0 :: .ref p :: st, w, k, n) = (go (rd g w p) 5 (fun _ => True) ∧ wt st ≤ 8 ∧ k + 2 ≤ 4 ∧ n + 12 ≤ 24 ∧ WP (MX1_rangeOf g) (kx (fun v w' => WP (MX1_isValid g) Q (13, [l0, l1, l2], v.toList ++ st, w', k + 2, n + 12)) (fun E w' => Q (.inr E) w')) (0, [some (.ref p), some (.int z0), none], [], w, 0, 0)) := csV0 (M := (MX1_isValid g)) (mc := (fun _ _ => 2)) (ms := (fun _ _ => 12)) (As := [.int z0]) (rest := st) (MX1_rangeOf g) rfl rfl rfl (dt_q dX1_isValid_0_D 6 rfl) rfl rfl rfl rfl rfl rfl
theorem eX1_isValid_13 : WP (MX1_isValid g) Q (13, [some (.ref p), l1, l2], st, w, k, n) = WP (MX1_isValid g) Q (14, [some (.ref p), l1, l2], .ref p :: st, w, k, n) := alnR_e rfl (dt_q dX1_isValid_0_D 7 rfl) rfl
theorem eX1_isValid_13N : WP (MX1_isValid g) Q (13, [some .null, l1, l2], st, w, k, n) = WP (MX1_isValid g) Q (14, [some .null, l1, l2], .null :: st, w, k, n) := alnN_e rfl (dt_q dX1_isValid_0_D 7 rfl) rfl
theorem eX1_isValid_14 : WP (MX1_isValid g) Q (14, [l0, l1, l2], .ref p :: st, w, k, n) = go (rd g w p) 5 fun fs => ∃ v, fs[0]? = some v ∧ WP (MX1_isValid g) Q (17, [l0, l1, l2], v :: st, w, k, n) := get_e rfl (dt_q dX1_isValid_0_D 8 rfl) rfl
theorem eX1_isValid_17 : WP (MX1_isValid g) Q (17, [l0, l1, some (.int a)], st, w, k, n) = WP (MX1_isValid g) Q (18, [l0, l1, some (.int a)], .int a :: st, w, k, n) := iln_e rfl (dt_q dX1_isValid_0_D 9 rfl) rfl
theorem eX1_isValid_18 : WP (MX1_isValid g) Q (18, [l0, l1, l2], .int a :: .ref p :: st, w, k, n) = gl (rd g w p) 0 fun N f => vp_in a N ∧ WP (MX1_isValid g) Q (19, [l0, l1, l2], .long (f a.toNatClampNeg) :: st, w, k, n) := laload_e rfl (dt_q dX1_isValid_0_D 10 rfl)
theorem eX1_isValid_19 {z0 : Int64} : WP (MX1_isValid g) Q (19, [l0, l1, l2], .long z0 :: .ref p :: st, w, k, n) = (go (rd g w p) 4 (fun _ => True) ∧ wt st ≤ 8 ∧ k + 0 ≤ 4 ∧ n + 0 ≤ 24 ∧ WP (MX0_holds g) (kx (fun v w' => WP (MX1_isValid g) Q (22, [l0, l1, l2], v.toList ++ st, w', k + 0, n + 0)) (fun E w' => Q (.inr E) w')) (0, [some (.ref p), some (.long z0), none], [], w, 0, 0)) := csV0 (M := (MX1_isValid g)) (mc := (fun _ _ => 0)) (ms := (fun _ _ => 0)) (As := [.long z0]) (rest := st) (MX0_holds g) rfl rfl rfl (dt_q dX1_isValid_0_D 11 rfl) rfl rfl rfl rfl rfl rfl
theorem eX1_isValid_22 : WP (MX1_isValid g) Q (22, [l0, l1, l2], [.int a], w, k, n) = (narrow (.boolean) (.int a) = .int a ∧ k ≤ 4 ∧ n ≤ 24 ∧ Q (.inl (some (.int a))) w) := iret_e rfl (dt_q dX1_isValid_0_D 12 rfl) rfl
end
theorem vMX1_isValid {l : Launch} (hl : l.stackTraces = false) (G : GT) : vM l G (MX1_isValid (gg G)) := vM_k RX1 cX1_isValid rfl rfl (all_c (vF_RX1_9) (all_n)) all_n all_n all_n all_n (fun h => absurd rfl h) (all_c (kc_78 hl wk_816) (all_c (kc_116 hl wk_353) (all_c (kc_123 hl wk_874) (all_c (kc_87 hl (⟨"Rangecard", tm_1 (List.mem_of_getElem? (i := 142) rfl)⟩)) (all_n))))) all_n all_n (fun h => absurd rfl h) rfl all_n
theorem okX1_isValid {l : Launch} (hl : l.stackTraces = false) {G : GT} : ∀ (args : List Value) (w : Hw) (S : Ot → Hw → Prop), spOf (MX1_isValid (gg G)) args w S → CX l G yX1_isValid (.code yX1_isValid cX1_isValid 3 (some .boolean)) 8 4 24 args w S := CX_sp (M := MX1_isValid (gg G)) (y := yX1_isValid) hl (by decide) rfl (vMX1_isValid hl G) (fun h => by cases h) rfl
abbrev dX1_isValidSmall_0_T : List (Nat × Instr × Nat) := [(0, .iload_n 1, 1), (1, .invokestatic 79, 3), (4, .iload_n 2, 1), (5, .invokestatic 35, 3), (8, .aload_n 0, 1), (9, .iload_n 1, 1), (10, .invokevirtual 98, 3), (13, .aload_n 0, 1), (14, .getfield 9, 3), (17, .iload_n 2, 1), (18, .laload, 1), (19, .invokevirtual 154, 3), (22, .ireturn, 1)]
theorem dX1_isValidSmall_0_D : dtc cX1_isValidSmall dX1_isValidSmall_0_T = true := by decide +kernel
def MX1_isValidSmall (g : RO) : MT := ((RX1, cX1_isValidSmall, 3, 8, 4, 24, false, some .boolean), [(9, 5, 0)], [], [], [], [], 0, [(79, 0, 1, 0, 6, (fun _ _ => 1), (fun _ _ => 6), yX1_needCard, spOf (MX1_needCard g)), (35, 0, 1, 0, 6, (fun _ _ => 1), (fun _ _ => 6), yX1_needNumber, spOf (MX1_needNumber g)), (98, 2, 2, 5, 7, (fun _ _ => 2), (fun _ _ => 12), yX1_rangeOf, spOf (MX1_rangeOf g)), (154, 3, 2, 4, 2, (fun _ _ => 0), (fun _ _ => 0), yX0_holdsAsSmall, spOf (MX0_holdsAsSmall g))], [], [], 0, [], [], g)
section
variable {g : RO} {Q : Ot → Hw → Prop} {st : List Value} {w : Hw} {k n p q : Nat} {a b : Int32} {x y : Int64} {u v : Value} {l0 l1 l2 : Option Value}
theorem eX1_isValidSmall_0 : WP (MX1_isValidSmall g) Q (0, [l0, some (.int a), l2], st, w, k, n) = WP (MX1_isValidSmall g) Q (1, [l0, some (.int a), l2], .int a :: st, w, k, n) := iln_e rfl (dt_q dX1_isValidSmall_0_D 0 rfl) rfl
theorem eX1_isValidSmall_1 {z0 : Int32} : WP (MX1_isValidSmall g) Q (1, [l0, l1, l2], .int z0 :: st, w, k, n) = (wt st ≤ 8 ∧ k + 1 ≤ 4 ∧ n + 6 ≤ 24 ∧ WP (MX1_needCard g) (kx (fun v w' => WP (MX1_isValidSmall g) Q (4, [l0, l1, l2], v.toList ++ st, w', k + 1, n + 6)) (fun E w' => Q (.inr E) w')) (0, [some (.int z0)], [], w, 0, 0)) := csS0 (M := (MX1_isValidSmall g)) (mc := (fun _ _ => 1)) (ms := (fun _ _ => 6)) (As := [.int z0]) (rest := st) (MX1_needCard g) rfl rfl rfl (dt_q dX1_isValidSmall_0_D 1 rfl) rfl rfl rfl rfl rfl rfl rfl
theorem eX1_isValidSmall_4 : WP (MX1_isValidSmall g) Q (4, [l0, l1, some (.int a)], st, w, k, n) = WP (MX1_isValidSmall g) Q (5, [l0, l1, some (.int a)], .int a :: st, w, k, n) := iln_e rfl (dt_q dX1_isValidSmall_0_D 2 rfl) rfl
theorem eX1_isValidSmall_5 {z0 : Int32} : WP (MX1_isValidSmall g) Q (5, [l0, l1, l2], .int z0 :: st, w, k, n) = (wt st ≤ 8 ∧ k + 1 ≤ 4 ∧ n + 6 ≤ 24 ∧ WP (MX1_needNumber g) (kx (fun v w' => WP (MX1_isValidSmall g) Q (8, [l0, l1, l2], v.toList ++ st, w', k + 1, n + 6)) (fun E w' => Q (.inr E) w')) (0, [some (.int z0)], [], w, 0, 0)) := csS0 (M := (MX1_isValidSmall g)) (mc := (fun _ _ => 1)) (ms := (fun _ _ => 6)) (As := [.int z0]) (rest := st) (MX1_needNumber g) rfl rfl rfl (dt_q dX1_isValidSmall_0_D 3 rfl) rfl rfl rfl rfl rfl rfl rfl
theorem eX1_isValidSmall_8 : WP (MX1_isValidSmall g) Q (8, [some (.ref p), l1, l2], st, w, k, n) = WP (MX1_isValidSmall g) Q (9, [some (.ref p), l1, l2], .ref p :: st, w, k, n) := alnR_e rfl (dt_q dX1_isValidSmall_0_D 4 rfl) rfl
theorem eX1_isValidSmall_8N : WP (MX1_isValidSmall g) Q (8, [some .null, l1, l2], st, w, k, n) = WP (MX1_isValidSmall g) Q (9, [some .null, l1, l2], .null :: st, w, k, n) := alnN_e rfl (dt_q dX1_isValidSmall_0_D 4 rfl) rfl
theorem eX1_isValidSmall_9 : WP (MX1_isValidSmall g) Q (9, [l0, some (.int a), l2], st, w, k, n) = WP (MX1_isValidSmall g) Q (10, [l0, some (.int a), l2], .int a :: st, w, k, n) := iln_e rfl (dt_q dX1_isValidSmall_0_D 5 rfl) rfl
theorem eX1_isValidSmall_10 {z0 : Int32} : WP (MX1_isValidSmall g) Q (10, [l0, l1, l2], .int z0 :: .ref p :: st, w, k, n) = (go (rd g w p) 5 (fun _ => True) ∧ wt st ≤ 8 ∧ k + 2 ≤ 4 ∧ n + 12 ≤ 24 ∧ WP (MX1_rangeOf g) (kx (fun v w' => WP (MX1_isValidSmall g) Q (13, [l0, l1, l2], v.toList ++ st, w', k + 2, n + 12)) (fun E w' => Q (.inr E) w')) (0, [some (.ref p), some (.int z0), none], [], w, 0, 0)) := csV0 (M := (MX1_isValidSmall g)) (mc := (fun _ _ => 2)) (ms := (fun _ _ => 12)) (As := [.int z0]) (rest := st) (MX1_rangeOf g) rfl rfl rfl (dt_q dX1_isValidSmall_0_D 6 rfl) rfl rfl rfl rfl rfl rfl
theorem eX1_isValidSmall_13 : WP (MX1_isValidSmall g) Q (13, [some (.ref p), l1, l2], st, w, k, n) = WP (MX1_isValidSmall g) Q (14, [some (.ref p), l1, l2], .ref p :: st, w, k, n) := alnR_e rfl (dt_q dX1_isValidSmall_0_D 7 rfl) rfl
theorem eX1_isValidSmall_13N : WP (MX1_isValidSmall g) Q (13, [some .null, l1, l2], st, w, k, n) = WP (MX1_isValidSmall g) Q (14, [some .null, l1, l2], .null :: st, w, k, n) := alnN_e rfl (dt_q dX1_isValidSmall_0_D 7 rfl) rfl
theorem eX1_isValidSmall_14 : WP (MX1_isValidSmall g) Q (14, [l0, l1, l2], .ref p :: st, w, k, n) = go (rd g w p) 5 fun fs => ∃ v, fs[0]? = some v ∧ WP (MX1_isValidSmall g) Q (17, [l0, l1, l2], v :: st, w, k, n) := get_e rfl (dt_q dX1_isValidSmall_0_D 8 rfl) rfl
theorem eX1_isValidSmall_17 : WP (MX1_isValidSmall g) Q (17, [l0, l1, some (.int a)], st, w, k, n) = WP (MX1_isValidSmall g) Q (18, [l0, l1, some (.int a)], .int a :: st, w, k, n) := iln_e rfl (dt_q dX1_isValidSmall_0_D 9 rfl) rfl
theorem eX1_isValidSmall_18 : WP (MX1_isValidSmall g) Q (18, [l0, l1, l2], .int a :: .ref p :: st, w, k, n) = gl (rd g w p) 0 fun N f => vp_in a N ∧ WP (MX1_isValidSmall g) Q (19, [l0, l1, l2], .long (f a.toNatClampNeg) :: st, w, k, n) := laload_e rfl (dt_q dX1_isValidSmall_0_D 10 rfl)
theorem eX1_isValidSmall_19 {z0 : Int64} : WP (MX1_isValidSmall g) Q (19, [l0, l1, l2], .long z0 :: .ref p :: st, w, k, n) = (go (rd g w p) 4 (fun _ => True) ∧ wt st ≤ 8 ∧ k + 0 ≤ 4 ∧ n + 0 ≤ 24 ∧ WP (MX0_holdsAsSmall g) (kx (fun v w' => WP (MX1_isValidSmall g) Q (22, [l0, l1, l2], v.toList ++ st, w', k + 0, n + 0)) (fun E w' => Q (.inr E) w')) (0, [some (.ref p), some (.long z0), none], [], w, 0, 0)) := csV0 (M := (MX1_isValidSmall g)) (mc := (fun _ _ => 0)) (ms := (fun _ _ => 0)) (As := [.long z0]) (rest := st) (MX0_holdsAsSmall g) rfl rfl rfl (dt_q dX1_isValidSmall_0_D 11 rfl) rfl rfl rfl rfl rfl rfl
theorem eX1_isValidSmall_22 : WP (MX1_isValidSmall g) Q (22, [l0, l1, l2], [.int a], w, k, n) = (narrow (.boolean) (.int a) = .int a ∧ k ≤ 4 ∧ n ≤ 24 ∧ Q (.inl (some (.int a))) w) := iret_e rfl (dt_q dX1_isValidSmall_0_D 12 rfl) rfl
end
theorem vMX1_isValidSmall {l : Launch} (hl : l.stackTraces = false) (G : GT) : vM l G (MX1_isValidSmall (gg G)) := vM_k RX1 cX1_isValidSmall rfl rfl (all_c (vF_RX1_9) (all_n)) all_n all_n all_n all_n (fun h => absurd rfl h) (all_c (kc_78 hl wk_816) (all_c (kc_116 hl wk_353) (all_c (kc_123 hl wk_874) (all_c (kc_88 hl (⟨"Rangecard", tm_1 (List.mem_of_getElem? (i := 154) rfl)⟩)) (all_n))))) all_n all_n (fun h => absurd rfl h) rfl all_n
theorem okX1_isValidSmall {l : Launch} (hl : l.stackTraces = false) {G : GT} : ∀ (args : List Value) (w : Hw) (S : Ot → Hw → Prop), spOf (MX1_isValidSmall (gg G)) args w S → CX l G yX1_isValidSmall (.code yX1_isValidSmall cX1_isValidSmall 3 (some .boolean)) 8 4 24 args w S := CX_sp (M := MX1_isValidSmall (gg G)) (y := yX1_isValidSmall) hl (by decide) rfl (vMX1_isValidSmall hl G) (fun h => by cases h) rfl
abbrev dX1_whichValid_0_T : List (Nat × Instr × Nat) := [(0, .aload_n 0, 1), (1, .iload_n 1, 1), (2, .invokevirtual 98, 3), (5, .iload_n 2, 1), (6, .i2l, 1), (7, .invokestatic 157, 3), (10, .ireturn, 1)]
theorem dX1_whichValid_0_D : dtc cX1_whichValid dX1_whichValid_0_T = true := by decide +kernel
def MX1_whichValid (g : RO) : MT := ((RX1, cX1_whichValid, 3, 8, 2, 12, false, some .int), [], [], [], [], [], 0, [(98, 2, 2, 5, 7, (fun _ _ => 2), (fun _ _ => 12), yX1_rangeOf, spOf (MX1_rangeOf g)), (157, 0, 2, 0, 3, (fun _ _ => 0), (fun _ _ => 0), yX1_validityIn, spOf (MX1_validityIn g))], [], [], 0, [], [], g)
section
variable {g : RO} {Q : Ot → Hw → Prop} {st : List Value} {w : Hw} {k n p q : Nat} {a b : Int32} {x y : Int64} {u v : Value} {l0 l1 l2 : Option Value}
theorem eX1_whichValid_0 : WP (MX1_whichValid g) Q (0, [some (.ref p), l1, l2], st, w, k, n) = WP (MX1_whichValid g) Q (1, [some (.ref p), l1, l2], .ref p :: st, w, k, n) := alnR_e rfl (dt_q dX1_whichValid_0_D 0 rfl) rfl
theorem eX1_whichValid_0N : WP (MX1_whichValid g) Q (0, [some .null, l1, l2], st, w, k, n) = WP (MX1_whichValid g) Q (1, [some .null, l1, l2], .null :: st, w, k, n) := alnN_e rfl (dt_q dX1_whichValid_0_D 0 rfl) rfl
theorem eX1_whichValid_1 : WP (MX1_whichValid g) Q (1, [l0, some (.int a), l2], st, w, k, n) = WP (MX1_whichValid g) Q (2, [l0, some (.int a), l2], .int a :: st, w, k, n) := iln_e rfl (dt_q dX1_whichValid_0_D 1 rfl) rfl
theorem eX1_whichValid_2 {z0 : Int32} : WP (MX1_whichValid g) Q (2, [l0, l1, l2], .int z0 :: .ref p :: st, w, k, n) = (go (rd g w p) 5 (fun _ => True) ∧ wt st ≤ 8 ∧ k + 2 ≤ 2 ∧ n + 12 ≤ 12 ∧ WP (MX1_rangeOf g) (kx (fun v w' => WP (MX1_whichValid g) Q (5, [l0, l1, l2], v.toList ++ st, w', k + 2, n + 12)) (fun E w' => Q (.inr E) w')) (0, [some (.ref p), some (.int z0), none], [], w, 0, 0)) := csV0 (M := (MX1_whichValid g)) (mc := (fun _ _ => 2)) (ms := (fun _ _ => 12)) (As := [.int z0]) (rest := st) (MX1_rangeOf g) rfl rfl rfl (dt_q dX1_whichValid_0_D 2 rfl) rfl rfl rfl rfl rfl rfl
theorem eX1_whichValid_5 : WP (MX1_whichValid g) Q (5, [l0, l1, some (.int a)], st, w, k, n) = WP (MX1_whichValid g) Q (6, [l0, l1, some (.int a)], .int a :: st, w, k, n) := iln_e rfl (dt_q dX1_whichValid_0_D 3 rfl) rfl
theorem eX1_whichValid_6 : WP (MX1_whichValid g) Q (6, [l0, l1, l2], .int a :: st, w, k, n) = WP (MX1_whichValid g) Q (7, [l0, l1, l2], .long a.toInt64 :: st, w, k, n) := i2l_e rfl (dt_q dX1_whichValid_0_D 4 rfl)
theorem eX1_whichValid_7R {z0 : Nat} {z1 : Int64} : WP (MX1_whichValid g) Q (7, [l0, l1, l2], .long z1 :: .ref z0 :: st, w, k, n) = (wt st ≤ 8 ∧ k + 0 ≤ 2 ∧ n + 0 ≤ 12 ∧ WP (MX1_validityIn g) (kx (fun v w' => WP (MX1_whichValid g) Q (10, [l0, l1, l2], v.toList ++ st, w', k + 0, n + 0)) (fun E w' => Q (.inr E) w')) (0, [some (.ref z0), some (.long z1), none], [], w, 0, 0)) := csS0 (M := (MX1_whichValid g)) (mc := (fun _ _ => 0)) (ms := (fun _ _ => 0)) (As := [.ref z0, .long z1]) (rest := st) (MX1_validityIn g) rfl rfl rfl (dt_q dX1_whichValid_0_D 5 rfl) rfl rfl rfl rfl rfl rfl rfl
theorem eX1_whichValid_7N {z1 : Int64} : WP (MX1_whichValid g) Q (7, [l0, l1, l2], .long z1 :: .null :: st, w, k, n) = (wt st ≤ 8 ∧ k + 0 ≤ 2 ∧ n + 0 ≤ 12 ∧ WP (MX1_validityIn g) (kx (fun v w' => WP (MX1_whichValid g) Q (10, [l0, l1, l2], v.toList ++ st, w', k + 0, n + 0)) (fun E w' => Q (.inr E) w')) (0, [some .null, some (.long z1), none], [], w, 0, 0)) := csS0 (M := (MX1_whichValid g)) (mc := (fun _ _ => 0)) (ms := (fun _ _ => 0)) (As := [.null, .long z1]) (rest := st) (MX1_validityIn g) rfl rfl rfl (dt_q dX1_whichValid_0_D 5 rfl) rfl rfl rfl rfl rfl rfl rfl
theorem eX1_whichValid_10 : WP (MX1_whichValid g) Q (10, [l0, l1, l2], [.int a], w, k, n) = (k ≤ 2 ∧ n ≤ 12 ∧ Q (.inl (some (.int a))) w) := iretI_e rfl (dt_q dX1_whichValid_0_D 6 rfl) rfl
end
theorem vMX1_whichValid {l : Launch} (hl : l.stackTraces = false) (G : GT) : vM l G (MX1_whichValid (gg G)) := vM_k RX1 cX1_whichValid rfl rfl all_n all_n all_n all_n all_n (fun h => absurd rfl h) (all_c (kc_123 hl wk_874) (all_c (kc_113 hl wk_309) (all_n))) all_n all_n (fun h => absurd rfl h) rfl all_n
theorem okX1_whichValid {l : Launch} (hl : l.stackTraces = false) {G : GT} : ∀ (args : List Value) (w : Hw) (S : Ot → Hw → Prop), spOf (MX1_whichValid (gg G)) args w S → CX l G yX1_whichValid (.code yX1_whichValid cX1_whichValid 3 (some .int)) 8 2 12 args w S := CX_sp (M := MX1_whichValid (gg G)) (y := yX1_whichValid) hl (by decide) rfl (vMX1_whichValid hl G) (fun h => by cases h) rfl
abbrev dX1_around_0_T : List (Nat × Instr × Nat) := [(0, .iload_n 1, 1), (1, .invokestatic 79, 3), (4, .iload_n 2, 1), (5, .iconst 3, 1), (6, .invokestatic 48, 3), (9, .aload_n 0, 1), (10, .iload_n 1, 1), (11, .invokevirtual 98, 3), (14, .astore 4, 2), (16, .aload 4, 2), (18, .aload 4, 2), (20, .iload_n 2, 1), (21, .invokevirtual 141, 3), (24, .iload_n 3, 1), (25, .invokestatic 161, 3), (28, .ireturn, 1)]
theorem dX1_around_0_D : dtc cX1_around dX1_around_0_T = true := by decide +kernel
def MX1_around (g : RO) : MT := ((RX1, cX1_around, 5, 8, 4, 24, false, some .int), [], [], [], [], [], 0, [(79, 0, 1, 0, 6, (fun _ _ => 1), (fun _ _ => 6), yX1_needCard, spOf (MX1_needCard g)), (48, 0, 2, 0, 6, (fun _ _ => 1), (fun _ _ => 6), yX1_needChoice, spOf (MX1_needChoice g)), (98, 2, 2, 5, 7, (fun _ _ => 2), (fun _ _ => 12), yX1_rangeOf, spOf (MX1_rangeOf g)), (141, 3, 2, 4, 1, (fun _ _ => 0), (fun _ _ => 0), yX0_endAt, spOf (MX0_endAt g)), (161, 0, 3, 0, 4, (fun _ _ => 0), (fun _ _ => 0), yX1_neighboursIn, spOf (MX1_neighboursIn g))], [], [], 0, [], [], g)
section
variable {g : RO} {Q : Ot → Hw → Prop} {st : List Value} {w : Hw} {k n p q : Nat} {a b : Int32} {x y : Int64} {u v : Value} {l0 l1 l2 l3 l4 : Option Value}
theorem eX1_around_0 : WP (MX1_around g) Q (0, [l0, some (.int a), l2, l3, l4], st, w, k, n) = WP (MX1_around g) Q (1, [l0, some (.int a), l2, l3, l4], .int a :: st, w, k, n) := iln_e rfl (dt_q dX1_around_0_D 0 rfl) rfl
theorem eX1_around_1 {z0 : Int32} : WP (MX1_around g) Q (1, [l0, l1, l2, l3, l4], .int z0 :: st, w, k, n) = (wt st ≤ 8 ∧ k + 1 ≤ 4 ∧ n + 6 ≤ 24 ∧ WP (MX1_needCard g) (kx (fun v w' => WP (MX1_around g) Q (4, [l0, l1, l2, l3, l4], v.toList ++ st, w', k + 1, n + 6)) (fun E w' => Q (.inr E) w')) (0, [some (.int z0)], [], w, 0, 0)) := csS0 (M := (MX1_around g)) (mc := (fun _ _ => 1)) (ms := (fun _ _ => 6)) (As := [.int z0]) (rest := st) (MX1_needCard g) rfl rfl rfl (dt_q dX1_around_0_D 1 rfl) rfl rfl rfl rfl rfl rfl rfl
theorem eX1_around_4 : WP (MX1_around g) Q (4, [l0, l1, some (.int a), l3, l4], st, w, k, n) = WP (MX1_around g) Q (5, [l0, l1, some (.int a), l3, l4], .int a :: st, w, k, n) := iln_e rfl (dt_q dX1_around_0_D 2 rfl) rfl
theorem eX1_around_5 : WP (MX1_around g) Q (5, [l0, l1, l2, l3, l4], st, w, k, n) = WP (MX1_around g) Q (6, [l0, l1, l2, l3, l4], .int 3 :: st, w, k, n) := ic_3 rfl (dt_q dX1_around_0_D 3 rfl)
theorem eX1_around_6 {z0 : Int32} {z1 : Int32} : WP (MX1_around g) Q (6, [l0, l1, l2, l3, l4], .int z1 :: .int z0 :: st, w, k, n) = (wt st ≤ 8 ∧ k + 1 ≤ 4 ∧ n + 6 ≤ 24 ∧ WP (MX1_needChoice g) (kx (fun v w' => WP (MX1_around g) Q (9, [l0, l1, l2, l3, l4], v.toList ++ st, w', k + 1, n + 6)) (fun E w' => Q (.inr E) w')) (0, [some (.int z0), some (.int z1)], [], w, 0, 0)) := csS0 (M := (MX1_around g)) (mc := (fun _ _ => 1)) (ms := (fun _ _ => 6)) (As := [.int z0, .int z1]) (rest := st) (MX1_needChoice g) rfl rfl rfl (dt_q dX1_around_0_D 4 rfl) rfl rfl rfl rfl rfl rfl rfl
theorem eX1_around_9 : WP (MX1_around g) Q (9, [some (.ref p), l1, l2, l3, l4], st, w, k, n) = WP (MX1_around g) Q (10, [some (.ref p), l1, l2, l3, l4], .ref p :: st, w, k, n) := alnR_e rfl (dt_q dX1_around_0_D 5 rfl) rfl
theorem eX1_around_9N : WP (MX1_around g) Q (9, [some .null, l1, l2, l3, l4], st, w, k, n) = WP (MX1_around g) Q (10, [some .null, l1, l2, l3, l4], .null :: st, w, k, n) := alnN_e rfl (dt_q dX1_around_0_D 5 rfl) rfl
theorem eX1_around_10 : WP (MX1_around g) Q (10, [l0, some (.int a), l2, l3, l4], st, w, k, n) = WP (MX1_around g) Q (11, [l0, some (.int a), l2, l3, l4], .int a :: st, w, k, n) := iln_e rfl (dt_q dX1_around_0_D 6 rfl) rfl
theorem eX1_around_11 {z0 : Int32} : WP (MX1_around g) Q (11, [l0, l1, l2, l3, l4], .int z0 :: .ref p :: st, w, k, n) = (go (rd g w p) 5 (fun _ => True) ∧ wt st ≤ 8 ∧ k + 2 ≤ 4 ∧ n + 12 ≤ 24 ∧ WP (MX1_rangeOf g) (kx (fun v w' => WP (MX1_around g) Q (14, [l0, l1, l2, l3, l4], v.toList ++ st, w', k + 2, n + 12)) (fun E w' => Q (.inr E) w')) (0, [some (.ref p), some (.int z0), none], [], w, 0, 0)) := csV0 (M := (MX1_around g)) (mc := (fun _ _ => 2)) (ms := (fun _ _ => 12)) (As := [.int z0]) (rest := st) (MX1_rangeOf g) rfl rfl rfl (dt_q dX1_around_0_D 7 rfl) rfl rfl rfl rfl rfl rfl
theorem eX1_around_14 : WP (MX1_around g) Q (14, [l0, l1, l2, l3, l4], .ref p :: st, w, k, n) = WP (MX1_around g) Q (16, [l0, l1, l2, nl l3, some (.ref p)], st, w, k, n) := asR_e rfl (dt_q dX1_around_0_D 8 rfl) rfl rfl
theorem eX1_around_14N : WP (MX1_around g) Q (14, [l0, l1, l2, l3, l4], .null :: st, w, k, n) = WP (MX1_around g) Q (16, [l0, l1, l2, nl l3, some (.null)], st, w, k, n) := asN_e rfl (dt_q dX1_around_0_D 8 rfl) rfl rfl
theorem eX1_around_16 : WP (MX1_around g) Q (16, [l0, l1, l2, l3, some (.ref p)], st, w, k, n) = WP (MX1_around g) Q (18, [l0, l1, l2, l3, some (.ref p)], .ref p :: st, w, k, n) := alR_e rfl (dt_q dX1_around_0_D 9 rfl) rfl
theorem eX1_around_16N : WP (MX1_around g) Q (16, [l0, l1, l2, l3, some .null], st, w, k, n) = WP (MX1_around g) Q (18, [l0, l1, l2, l3, some .null], .null :: st, w, k, n) := alN_e rfl (dt_q dX1_around_0_D 9 rfl) rfl
theorem eX1_around_18 : WP (MX1_around g) Q (18, [l0, l1, l2, l3, some (.ref p)], st, w, k, n) = WP (MX1_around g) Q (20, [l0, l1, l2, l3, some (.ref p)], .ref p :: st, w, k, n) := alR_e rfl (dt_q dX1_around_0_D 10 rfl) rfl
theorem eX1_around_18N : WP (MX1_around g) Q (18, [l0, l1, l2, l3, some .null], st, w, k, n) = WP (MX1_around g) Q (20, [l0, l1, l2, l3, some .null], .null :: st, w, k, n) := alN_e rfl (dt_q dX1_around_0_D 10 rfl) rfl
theorem eX1_around_20 : WP (MX1_around g) Q (20, [l0, l1, some (.int a), l3, l4], st, w, k, n) = WP (MX1_around g) Q (21, [l0, l1, some (.int a), l3, l4], .int a :: st, w, k, n) := iln_e rfl (dt_q dX1_around_0_D 11 rfl) rfl
theorem eX1_around_21 {z0 : Int32} : WP (MX1_around g) Q (21, [l0, l1, l2, l3, l4], .int z0 :: .ref p :: st, w, k, n) = (go (rd g w p) 4 (fun _ => True) ∧ wt st ≤ 8 ∧ k + 0 ≤ 4 ∧ n + 0 ≤ 24 ∧ WP (MX0_endAt g) (kx (fun v w' => WP (MX1_around g) Q (24, [l0, l1, l2, l3, l4], v.toList ++ st, w', k + 0, n + 0)) (fun E w' => Q (.inr E) w')) (0, [some (.ref p), some (.int z0)], [], w, 0, 0)) := csV0 (M := (MX1_around g)) (mc := (fun _ _ => 0)) (ms := (fun _ _ => 0)) (As := [.int z0]) (rest := st) (MX0_endAt g) rfl rfl rfl (dt_q dX1_around_0_D 12 rfl) rfl rfl rfl rfl rfl rfl
theorem eX1_around_24 : WP (MX1_around g) Q (24, [l0, l1, l2, some (.int a), l4], st, w, k, n) = WP (MX1_around g) Q (25, [l0, l1, l2, some (.int a), l4], .int a :: st, w, k, n) := iln_e rfl (dt_q dX1_around_0_D 13 rfl) rfl
theorem eX1_around_25R {z0 : Nat} {z1 : Int64} {z2 : Int32} : WP (MX1_around g) Q (25, [l0, l1, l2, l3, l4], .int z2 :: .long z1 :: .ref z0 :: st, w, k, n) = (wt st ≤ 8 ∧ k + 0 ≤ 4 ∧ n + 0 ≤ 24 ∧ WP (MX1_neighboursIn g) (kx (fun v w' => WP (MX1_around g) Q (28, [l0, l1, l2, l3, l4], v.toList ++ st, w', k + 0, n + 0)) (fun E w' => Q (.inr E) w')) (0, [some (.ref z0), some (.long z1), none, some (.int z2)], [], w, 0, 0)) := csS0 (M := (MX1_around g)) (mc := (fun _ _ => 0)) (ms := (fun _ _ => 0)) (As := [.ref z0, .long z1, .int z2]) (rest := st) (MX1_neighboursIn g) rfl rfl rfl (dt_q dX1_around_0_D 14 rfl) rfl rfl rfl rfl rfl rfl rfl
theorem eX1_around_25N {z1 : Int64} {z2 : Int32} : WP (MX1_around g) Q (25, [l0, l1, l2, l3, l4], .int z2 :: .long z1 :: .null :: st, w, k, n) = (wt st ≤ 8 ∧ k + 0 ≤ 4 ∧ n + 0 ≤ 24 ∧ WP (MX1_neighboursIn g) (kx (fun v w' => WP (MX1_around g) Q (28, [l0, l1, l2, l3, l4], v.toList ++ st, w', k + 0, n + 0)) (fun E w' => Q (.inr E) w')) (0, [some .null, some (.long z1), none, some (.int z2)], [], w, 0, 0)) := csS0 (M := (MX1_around g)) (mc := (fun _ _ => 0)) (ms := (fun _ _ => 0)) (As := [.null, .long z1, .int z2]) (rest := st) (MX1_neighboursIn g) rfl rfl rfl (dt_q dX1_around_0_D 14 rfl) rfl rfl rfl rfl rfl rfl rfl
theorem eX1_around_28 : WP (MX1_around g) Q (28, [l0, l1, l2, l3, l4], [.int a], w, k, n) = (k ≤ 4 ∧ n ≤ 24 ∧ Q (.inl (some (.int a))) w) := iretI_e rfl (dt_q dX1_around_0_D 15 rfl) rfl
end
theorem vMX1_around {l : Launch} (hl : l.stackTraces = false) (G : GT) : vM l G (MX1_around (gg G)) := vM_k RX1 cX1_around rfl rfl all_n all_n all_n all_n all_n (fun h => absurd rfl h) (all_c (kc_78 hl wk_816) (all_c (kc_117 hl wk_440) (all_c (kc_123 hl wk_874) (all_c (kc_84 hl (⟨"Rangecard", tm_1 (List.mem_of_getElem? (i := 150) rfl)⟩)) (all_c (kc_108 hl wk_294) (all_n)))))) all_n all_n (fun h => absurd rfl h) rfl all_n
theorem okX1_around {l : Launch} (hl : l.stackTraces = false) {G : GT} : ∀ (args : List Value) (w : Hw) (S : Ot → Hw → Prop), spOf (MX1_around (gg G)) args w S → CX l G yX1_around (.code yX1_around cX1_around 5 (some .int)) 8 4 24 args w S := CX_sp (M := MX1_around (gg G)) (y := yX1_around) hl (by decide) rfl (vMX1_around hl G) (fun h => by cases h) rfl
end
/-! 66.class15.lean.txt -/
section
abbrev dX1_count_0_T : List (Nat × Instr × Nat) := [(0, .iload_n 1, 1), (1, .invokestatic 79, 3), (4, .iload_n 3, 1), (5, .iconst 1, 1), (6, .if_icmp .lt 9, 3), (9, .iload_n 3, 1), (10, .bipush 60, 2), (12, .if_icmp .le 13, 3), (15, .new 165, 3), (18, .dup, 1), (19, .ldc 167, 2), (21, .invokespecial 169, 3), (24, .athrow, 1), (25, .aload_n 0, 1), (26, .iload_n 1, 1), (27, .invokevirtual 98, 3), (30, .astore 4, 2), (32, .iconst 0, 1), (33, .istore 5, 2), (35, .iconst 0, 1), (36, .istore 6, 2), (38, .iload 6, 2), (40, .iload_n 3, 1), (41, .if_icmp .ge 28, 3), (44, .iload 5, 2), (46, .aload 4, 2), (48, .iload_n 2, 1), (49, .i2l, 1), (50, .iload 6, 2), (52, .i2l, 1), (53, .ladd, 1), (54, .invokevirtual 150, 3), (57, .invokestatic 130, 3), (60, .iadd, 1), (61, .istore 5, 2), (63, .iinc 6 1, 3), (66, .goto (-28), 3), (69, .iload 5, 2), (71, .ireturn, 1)]
theorem dX1_count_0_D : dtc cX1_count dX1_count_0_T = true := by decide +kernel
theorem dX1_count_15 : decode cX1_count 15 = .ok (.new 165, 3) := dt_q dX1_count_0_D 8 rfl
theorem dX1_count_18 : decode cX1_count 18 = .ok (.dup, 1) := dt_q dX1_count_0_D 9 rfl
theorem dX1_count_19 : decode cX1_count 19 = .ok (.ldc 167, 2) := dt_q dX1_count_0_D 10 rfl
theorem dX1_count_21 : decode cX1_count 21 = .ok (.invokespecial 169, 3) := dt_q dX1_count_0_D 11 rfl
theorem dX1_count_24 : decode cX1_count 24 = .ok (.athrow, 1) := dt_q dX1_count_0_D 12 rfl
def MX1_count (g : RO) : MT := ((RX1, cX1_count, 7, 8, 4, 24, false, some .int), [], [], [], [], [(15, "java/lang/IllegalArgumentException")], 0, [(79, 0, 1, 0, 6, (fun _ _ => 1), (fun _ _ => 6), yX1_needCard, spOf (MX1_needCard g)), (98, 2, 2, 5, 7, (fun _ _ => 2), (fun _ _ => 12), yX1_rangeOf, spOf (MX1_rangeOf g)), (150, 3, 2, 4, 1, (fun _ _ => 0), (fun _ _ => 0), yX0_holds, spOf (MX0_holds g)), (130, 0, 1, 0, 1, (fun _ _ => 0), (fun _ _ => 0), yX1_asNumber, spOf (MX1_asNumber g))], [], [], 0, [], [], g)
section
variable {g : RO} {Q : Ot → Hw → Prop} {st : List Value} {w : Hw} {k n p q : Nat} {a b : Int32} {x y : Int64} {u v : Value} {l0 l1 l2 l3 l4 l5 l6 : Option Value}
theorem eX1_count_0 : WP (MX1_count g) Q (0, [l0, some (.int a), l2, l3, l4, l5, l6], st, w, k, n) = WP (MX1_count g) Q (1, [l0, some (.int a), l2, l3, l4, l5, l6], .int a :: st, w, k, n) := iln_e rfl (dt_q dX1_count_0_D 0 rfl) rfl
theorem eX1_count_1 {z0 : Int32} : WP (MX1_count g) Q (1, [l0, l1, l2, l3, l4, l5, l6], .int z0 :: st, w, k, n) = (wt st ≤ 8 ∧ k + 1 ≤ 4 ∧ n + 6 ≤ 24 ∧ WP (MX1_needCard g) (kx (fun v w' => WP (MX1_count g) Q (4, [l0, l1, l2, l3, l4, l5, l6], v.toList ++ st, w', k + 1, n + 6)) (fun E w' => Q (.inr E) w')) (0, [some (.int z0)], [], w, 0, 0)) := csS0 (M := (MX1_count g)) (mc := (fun _ _ => 1)) (ms := (fun _ _ => 6)) (As := [.int z0]) (rest := st) (MX1_needCard g) rfl rfl rfl (dt_q dX1_count_0_D 1 rfl) rfl rfl rfl rfl rfl rfl rfl
theorem eX1_count_4 : WP (MX1_count g) Q (4, [l0, l1, l2, some (.int a), l4, l5, l6], st, w, k, n) = WP (MX1_count g) Q (5, [l0, l1, l2, some (.int a), l4, l5, l6], .int a :: st, w, k, n) := iln_e rfl (dt_q dX1_count_0_D 2 rfl) rfl
theorem eX1_count_5 : WP (MX1_count g) Q (5, [l0, l1, l2, l3, l4, l5, l6], st, w, k, n) = WP (MX1_count g) Q (6, [l0, l1, l2, l3, l4, l5, l6], .int 1 :: st, w, k, n) := ic_1 rfl (dt_q dX1_count_0_D 3 rfl)
theorem eX1_count_6 : WP (MX1_count g) Q (6, [l0, l1, l2, l3, l4, l5, l6], .int b :: .int a :: st, w, k, n) = if a < b then WP (MX1_count g) Q (15, [l0, l1, l2, l3, l4, l5, l6], st, w, k, n) else WP (MX1_count g) Q (9, [l0, l1, l2, l3, l4, l5, l6], st, w, k, n) := icm_e (a < b) rfl (dt_q dX1_count_0_D 4 rfl) rfl (by decide)
theorem eX1_count_9 : WP (MX1_count g) Q (9, [l0, l1, l2, some (.int a), l4, l5, l6], st, w, k, n) = WP (MX1_count g) Q (10, [l0, l1, l2, some (.int a), l4, l5, l6], .int a :: st, w, k, n) := iln_e rfl (dt_q dX1_count_0_D 5 rfl) rfl
theorem eX1_count_10 : WP (MX1_count g) Q (10, [l0, l1, l2, l3, l4, l5, l6], st, w, k, n) = WP (MX1_count g) Q (12, [l0, l1, l2, l3, l4, l5, l6], .int 60 :: st, w, k, n) := bipush_e rfl (dt_q dX1_count_0_D 6 rfl) (by decide)
theorem eX1_count_12 : WP (MX1_count g) Q (12, [l0, l1, l2, l3, l4, l5, l6], .int b :: .int a :: st, w, k, n) = if a ≤ b then WP (MX1_count g) Q (25, [l0, l1, l2, l3, l4, l5, l6], st, w, k, n) else WP (MX1_count g) Q (15, [l0, l1, l2, l3, l4, l5, l6], st, w, k, n) := icm_e (a ≤ b) rfl (dt_q dX1_count_0_D 7 rfl) rfl (by decide)
theorem eX1_count_15 : WP (MX1_count g) Q (15, [l0, l1, l2, l3, l4, l5, l6], st, w, k, n) = (k + 1 ≤ 4 ∧ n + 6 ≤ 24 ∧ wt st ≤ 8 ∧ 6 ≤ 8 ∧ Q (.inr "java/lang/IllegalArgumentException") w) := WP_thr rfl rfl
theorem eX1_count_25 : WP (MX1_count g) Q (25, [some (.ref p), l1, l2, l3, l4, l5, l6], st, w, k, n) = WP (MX1_count g) Q (26, [some (.ref p), l1, l2, l3, l4, l5, l6], .ref p :: st, w, k, n) := alnR_e rfl (dt_q dX1_count_0_D 13 rfl) rfl
theorem eX1_count_25N : WP (MX1_count g) Q (25, [some .null, l1, l2, l3, l4, l5, l6], st, w, k, n) = WP (MX1_count g) Q (26, [some .null, l1, l2, l3, l4, l5, l6], .null :: st, w, k, n) := alnN_e rfl (dt_q dX1_count_0_D 13 rfl) rfl
theorem eX1_count_26 : WP (MX1_count g) Q (26, [l0, some (.int a), l2, l3, l4, l5, l6], st, w, k, n) = WP (MX1_count g) Q (27, [l0, some (.int a), l2, l3, l4, l5, l6], .int a :: st, w, k, n) := iln_e rfl (dt_q dX1_count_0_D 14 rfl) rfl
theorem eX1_count_27 {z0 : Int32} : WP (MX1_count g) Q (27, [l0, l1, l2, l3, l4, l5, l6], .int z0 :: .ref p :: st, w, k, n) = (go (rd g w p) 5 (fun _ => True) ∧ wt st ≤ 8 ∧ k + 2 ≤ 4 ∧ n + 12 ≤ 24 ∧ WP (MX1_rangeOf g) (kx (fun v w' => WP (MX1_count g) Q (30, [l0, l1, l2, l3, l4, l5, l6], v.toList ++ st, w', k + 2, n + 12)) (fun E w' => Q (.inr E) w')) (0, [some (.ref p), some (.int z0), none], [], w, 0, 0)) := csV0 (M := (MX1_count g)) (mc := (fun _ _ => 2)) (ms := (fun _ _ => 12)) (As := [.int z0]) (rest := st) (MX1_rangeOf g) rfl rfl rfl (dt_q dX1_count_0_D 15 rfl) rfl rfl rfl rfl rfl rfl
theorem eX1_count_30 : WP (MX1_count g) Q (30, [l0, l1, l2, l3, l4, l5, l6], .ref p :: st, w, k, n) = WP (MX1_count g) Q (32, [l0, l1, l2, nl l3, some (.ref p), l5, l6], st, w, k, n) := asR_e rfl (dt_q dX1_count_0_D 16 rfl) rfl rfl
theorem eX1_count_30N : WP (MX1_count g) Q (30, [l0, l1, l2, l3, l4, l5, l6], .null :: st, w, k, n) = WP (MX1_count g) Q (32, [l0, l1, l2, nl l3, some (.null), l5, l6], st, w, k, n) := asN_e rfl (dt_q dX1_count_0_D 16 rfl) rfl rfl
theorem eX1_count_32 : WP (MX1_count g) Q (32, [l0, l1, l2, l3, l4, l5, l6], st, w, k, n) = WP (MX1_count g) Q (33, [l0, l1, l2, l3, l4, l5, l6], .int 0 :: st, w, k, n) := ic_0 rfl (dt_q dX1_count_0_D 17 rfl)
theorem eX1_count_33 : WP (MX1_count g) Q (33, [l0, l1, l2, l3, l4, l5, l6], .int a :: st, w, k, n) = WP (MX1_count g) Q (35, [l0, l1, l2, l3, nl l4, some (.int a), l6], st, w, k, n) := is_e rfl (dt_q dX1_count_0_D 18 rfl) rfl rfl
theorem eX1_count_35 : WP (MX1_count g) Q (35, [l0, l1, l2, l3, l4, l5, l6], st, w, k, n) = WP (MX1_count g) Q (36, [l0, l1, l2, l3, l4, l5, l6], .int 0 :: st, w, k, n) := ic_0 rfl (dt_q dX1_count_0_D 19 rfl)
theorem eX1_count_36 : WP (MX1_count g) Q (36, [l0, l1, l2, l3, l4, l5, l6], .int a :: st, w, k, n) = WP (MX1_count g) Q (38, [l0, l1, l2, l3, l4, nl l5, some (.int a)], st, w, k, n) := is_e rfl (dt_q dX1_count_0_D 20 rfl) rfl rfl
theorem eX1_count_38 : WP (MX1_count g) Q (38, [l0, l1, l2, l3, l4, l5, some (.int a)], st, w, k, n) = WP (MX1_count g) Q (40, [l0, l1, l2, l3, l4, l5, some (.int a)], .int a :: st, w, k, n) := il_e rfl (dt_q dX1_count_0_D 21 rfl) rfl
theorem eX1_count_40 : WP (MX1_count g) Q (40, [l0, l1, l2, some (.int a), l4, l5, l6], st, w, k, n) = WP (MX1_count g) Q (41, [l0, l1, l2, some (.int a), l4, l5, l6], .int a :: st, w, k, n) := iln_e rfl (dt_q dX1_count_0_D 22 rfl) rfl
theorem eX1_count_41 : WP (MX1_count g) Q (41, [l0, l1, l2, l3, l4, l5, l6], .int b :: .int a :: st, w, k, n) = if b ≤ a then WP (MX1_count g) Q (69, [l0, l1, l2, l3, l4, l5, l6], st, w, k, n) else WP (MX1_count g) Q (44, [l0, l1, l2, l3, l4, l5, l6], st, w, k, n) := icm_e (b ≤ a) rfl (dt_q dX1_count_0_D 23 rfl) rfl (by decide)
theorem eX1_count_44 : WP (MX1_count g) Q (44, [l0, l1, l2, l3, l4, some (.int a), l6], st, w, k, n) = WP (MX1_count g) Q (46, [l0, l1, l2, l3, l4, some (.int a), l6], .int a :: st, w, k, n) := il_e rfl (dt_q dX1_count_0_D 24 rfl) rfl
theorem eX1_count_46 : WP (MX1_count g) Q (46, [l0, l1, l2, l3, some (.ref p), l5, l6], st, w, k, n) = WP (MX1_count g) Q (48, [l0, l1, l2, l3, some (.ref p), l5, l6], .ref p :: st, w, k, n) := alR_e rfl (dt_q dX1_count_0_D 25 rfl) rfl
theorem eX1_count_46N : WP (MX1_count g) Q (46, [l0, l1, l2, l3, some .null, l5, l6], st, w, k, n) = WP (MX1_count g) Q (48, [l0, l1, l2, l3, some .null, l5, l6], .null :: st, w, k, n) := alN_e rfl (dt_q dX1_count_0_D 25 rfl) rfl
theorem eX1_count_48 : WP (MX1_count g) Q (48, [l0, l1, some (.int a), l3, l4, l5, l6], st, w, k, n) = WP (MX1_count g) Q (49, [l0, l1, some (.int a), l3, l4, l5, l6], .int a :: st, w, k, n) := iln_e rfl (dt_q dX1_count_0_D 26 rfl) rfl
theorem eX1_count_49 : WP (MX1_count g) Q (49, [l0, l1, l2, l3, l4, l5, l6], .int a :: st, w, k, n) = WP (MX1_count g) Q (50, [l0, l1, l2, l3, l4, l5, l6], .long a.toInt64 :: st, w, k, n) := i2l_e rfl (dt_q dX1_count_0_D 27 rfl)
theorem eX1_count_50 : WP (MX1_count g) Q (50, [l0, l1, l2, l3, l4, l5, some (.int a)], st, w, k, n) = WP (MX1_count g) Q (52, [l0, l1, l2, l3, l4, l5, some (.int a)], .int a :: st, w, k, n) := il_e rfl (dt_q dX1_count_0_D 28 rfl) rfl
theorem eX1_count_52 : WP (MX1_count g) Q (52, [l0, l1, l2, l3, l4, l5, l6], .int a :: st, w, k, n) = WP (MX1_count g) Q (53, [l0, l1, l2, l3, l4, l5, l6], .long a.toInt64 :: st, w, k, n) := i2l_e rfl (dt_q dX1_count_0_D 29 rfl)
theorem eX1_count_53 : WP (MX1_count g) Q (53, [l0, l1, l2, l3, l4, l5, l6], .long y :: .long x :: st, w, k, n) = WP (MX1_count g) Q (54, [l0, l1, l2, l3, l4, l5, l6], .long (x + y) :: st, w, k, n) := ladd_e rfl (dt_q dX1_count_0_D 30 rfl)
theorem eX1_count_54 {z0 : Int64} : WP (MX1_count g) Q (54, [l0, l1, l2, l3, l4, l5, l6], .long z0 :: .ref p :: st, w, k, n) = (go (rd g w p) 4 (fun _ => True) ∧ wt st ≤ 8 ∧ k + 0 ≤ 4 ∧ n + 0 ≤ 24 ∧ WP (MX0_holds g) (kx (fun v w' => WP (MX1_count g) Q (57, [l0, l1, l2, l3, l4, l5, l6], v.toList ++ st, w', k + 0, n + 0)) (fun E w' => Q (.inr E) w')) (0, [some (.ref p), some (.long z0), none], [], w, 0, 0)) := csV0 (M := (MX1_count g)) (mc := (fun _ _ => 0)) (ms := (fun _ _ => 0)) (As := [.long z0]) (rest := st) (MX0_holds g) rfl rfl rfl (dt_q dX1_count_0_D 31 rfl) rfl rfl rfl rfl rfl rfl
theorem eX1_count_57 {z0 : Int32} : WP (MX1_count g) Q (57, [l0, l1, l2, l3, l4, l5, l6], .int z0 :: st, w, k, n) = (wt st ≤ 8 ∧ k + 0 ≤ 4 ∧ n + 0 ≤ 24 ∧ WP (MX1_asNumber g) (kx (fun v w' => WP (MX1_count g) Q (60, [l0, l1, l2, l3, l4, l5, l6], v.toList ++ st, w', k + 0, n + 0)) (fun E w' => Q (.inr E) w')) (0, [some (.int z0)], [], w, 0, 0)) := csS0 (M := (MX1_count g)) (mc := (fun _ _ => 0)) (ms := (fun _ _ => 0)) (As := [.int z0]) (rest := st) (MX1_asNumber g) rfl rfl rfl (dt_q dX1_count_0_D 32 rfl) rfl rfl rfl rfl rfl rfl rfl
theorem eX1_count_60 : WP (MX1_count g) Q (60, [l0, l1, l2, l3, l4, l5, l6], .int b :: .int a :: st, w, k, n) = WP (MX1_count g) Q (61, [l0, l1, l2, l3, l4, l5, l6], .int (a + b) :: st, w, k, n) := iadd_e rfl (dt_q dX1_count_0_D 33 rfl)
theorem eX1_count_61 : WP (MX1_count g) Q (61, [l0, l1, l2, l3, l4, l5, l6], .int a :: st, w, k, n) = WP (MX1_count g) Q (63, [l0, l1, l2, l3, nl l4, some (.int a), l6], st, w, k, n) := is_e rfl (dt_q dX1_count_0_D 34 rfl) rfl rfl
theorem eX1_count_63 : WP (MX1_count g) Q (63, [l0, l1, l2, l3, l4, l5, some (.int a)], st, w, k, n) = WP (MX1_count g) Q (66, [l0, l1, l2, l3, l4, nl l5, some (.int (a + 1))], st, w, k, n) := Eq.trans (iinc_e (M := (MX1_count g)) (L := [l0, l1, l2, l3, l4, l5, some (.int a)]) (d := 1) rfl (dt_q dX1_count_0_D 35 rfl) (by decide) rfl) rfl
theorem eX1_count_66 : WP (MX1_count g) Q (66, [l0, l1, l2, l3, l4, l5, l6], st, w, k, n) = WP (MX1_count g) Q (38, [l0, l1, l2, l3, l4, l5, l6], st, w, k, n) := goto_e rfl (dt_q dX1_count_0_D 36 rfl) (by decide)
theorem eX1_count_69 : WP (MX1_count g) Q (69, [l0, l1, l2, l3, l4, some (.int a), l6], st, w, k, n) = WP (MX1_count g) Q (71, [l0, l1, l2, l3, l4, some (.int a), l6], .int a :: st, w, k, n) := il_e rfl (dt_q dX1_count_0_D 37 rfl) rfl
theorem eX1_count_71 : WP (MX1_count g) Q (71, [l0, l1, l2, l3, l4, l5, l6], [.int a], w, k, n) = (k ≤ 4 ∧ n ≤ 24 ∧ Q (.inl (some (.int a))) w) := iretI_e rfl (dt_q dX1_count_0_D 38 rfl) rfl
end
theorem vMX1_count {l : Launch} (hl : l.stackTraces = false) (G : GT) : vM l G (MX1_count (gg G)) := vM_k RX1 cX1_count rfl rfl all_n all_n all_n all_n (all_c (⟨165, 167, 169, "many is not 1 to 60", by decide, by decide +kernel, wk_443, wk_73, vX_RX1_165_169, by decide, dX1_count_15, dX1_count_18, dX1_count_19, dX1_count_21, dX1_count_24⟩) (all_n)) (fun h => absurd rfl h) (all_c (kc_78 hl wk_816) (all_c (kc_123 hl wk_874) (all_c (kc_87 hl (⟨"Rangecard", tm_1 (List.mem_of_getElem? (i := 142) rfl)⟩)) (all_c (kc_86 hl wk_261) (all_n))))) all_n all_n (fun h => absurd rfl h) rfl all_n
theorem okX1_count {l : Launch} (hl : l.stackTraces = false) {G : GT} : ∀ (args : List Value) (w : Hw) (S : Ot → Hw → Prop), spOf (MX1_count (gg G)) args w S → CX l G yX1_count (.code yX1_count cX1_count 7 (some .int)) 8 4 24 args w S := CX_sp (M := MX1_count (gg G)) (y := yX1_count) hl (by decide) rfl (vMX1_count hl G) (fun h => by cases h) rfl
abbrev dX1_who_0_T : List (Nat × Instr × Nat) := [(0, .iload_n 1, 1), (1, .invokestatic 35, 3), (4, .iload_n 2, 1), (5, .iconst 1, 1), (6, .invokestatic 48, 3), (9, .aload_n 0, 1), (10, .aload_n 0, 1), (11, .getfield 9, 3), (14, .iload_n 1, 1), (15, .laload, 1), (16, .iload_n 2, 1), (17, .iconst 1, 1), (18, .if_icmp .ne 7, 3), (21, .iconst 1, 1), (22, .goto 4, 3), (25, .iconst 0, 1), (26, .invokevirtual 172, 3), (29, .ireturn, 1)]
theorem dX1_who_0_D : dtc cX1_who dX1_who_0_T = true := by decide +kernel
def MX1_who (g : RO) : MT := ((RX1, cX1_who, 3, 7, 2, 12, false, some .int), [(9, 5, 0)], [], [], [], [], 0, [(35, 0, 1, 0, 6, (fun _ _ => 1), (fun _ _ => 6), yX1_needNumber, spOf (MX1_needNumber g)), (48, 0, 2, 0, 6, (fun _ _ => 1), (fun _ _ => 6), yX1_needChoice, spOf (MX1_needChoice g)), (172, 2, 3, 5, 4, (fun _ _ => 0), (fun _ _ => 0), yX1_holdersOf, spOf (MX1_holdersOf g))], [], [], 0, [], [], g)
section
variable {g : RO} {Q : Ot → Hw → Prop} {st : List Value} {w : Hw} {k n p q : Nat} {a b : Int32} {x y : Int64} {u v : Value} {l0 l1 l2 : Option Value}
theorem eX1_who_0 : WP (MX1_who g) Q (0, [l0, some (.int a), l2], st, w, k, n) = WP (MX1_who g) Q (1, [l0, some (.int a), l2], .int a :: st, w, k, n) := iln_e rfl (dt_q dX1_who_0_D 0 rfl) rfl
theorem eX1_who_1 {z0 : Int32} : WP (MX1_who g) Q (1, [l0, l1, l2], .int z0 :: st, w, k, n) = (wt st ≤ 8 ∧ k + 1 ≤ 2 ∧ n + 6 ≤ 12 ∧ WP (MX1_needNumber g) (kx (fun v w' => WP (MX1_who g) Q (4, [l0, l1, l2], v.toList ++ st, w', k + 1, n + 6)) (fun E w' => Q (.inr E) w')) (0, [some (.int z0)], [], w, 0, 0)) := csS0 (M := (MX1_who g)) (mc := (fun _ _ => 1)) (ms := (fun _ _ => 6)) (As := [.int z0]) (rest := st) (MX1_needNumber g) rfl rfl rfl (dt_q dX1_who_0_D 1 rfl) rfl rfl rfl rfl rfl rfl rfl
theorem eX1_who_4 : WP (MX1_who g) Q (4, [l0, l1, some (.int a)], st, w, k, n) = WP (MX1_who g) Q (5, [l0, l1, some (.int a)], .int a :: st, w, k, n) := iln_e rfl (dt_q dX1_who_0_D 2 rfl) rfl
theorem eX1_who_5 : WP (MX1_who g) Q (5, [l0, l1, l2], st, w, k, n) = WP (MX1_who g) Q (6, [l0, l1, l2], .int 1 :: st, w, k, n) := ic_1 rfl (dt_q dX1_who_0_D 3 rfl)
theorem eX1_who_6 {z0 : Int32} {z1 : Int32} : WP (MX1_who g) Q (6, [l0, l1, l2], .int z1 :: .int z0 :: st, w, k, n) = (wt st ≤ 8 ∧ k + 1 ≤ 2 ∧ n + 6 ≤ 12 ∧ WP (MX1_needChoice g) (kx (fun v w' => WP (MX1_who g) Q (9, [l0, l1, l2], v.toList ++ st, w', k + 1, n + 6)) (fun E w' => Q (.inr E) w')) (0, [some (.int z0), some (.int z1)], [], w, 0, 0)) := csS0 (M := (MX1_who g)) (mc := (fun _ _ => 1)) (ms := (fun _ _ => 6)) (As := [.int z0, .int z1]) (rest := st) (MX1_needChoice g) rfl rfl rfl (dt_q dX1_who_0_D 4 rfl) rfl rfl rfl rfl rfl rfl rfl
theorem eX1_who_9 : WP (MX1_who g) Q (9, [some (.ref p), l1, l2], st, w, k, n) = WP (MX1_who g) Q (10, [some (.ref p), l1, l2], .ref p :: st, w, k, n) := alnR_e rfl (dt_q dX1_who_0_D 5 rfl) rfl
theorem eX1_who_9N : WP (MX1_who g) Q (9, [some .null, l1, l2], st, w, k, n) = WP (MX1_who g) Q (10, [some .null, l1, l2], .null :: st, w, k, n) := alnN_e rfl (dt_q dX1_who_0_D 5 rfl) rfl
theorem eX1_who_10 : WP (MX1_who g) Q (10, [some (.ref p), l1, l2], st, w, k, n) = WP (MX1_who g) Q (11, [some (.ref p), l1, l2], .ref p :: st, w, k, n) := alnR_e rfl (dt_q dX1_who_0_D 6 rfl) rfl
theorem eX1_who_10N : WP (MX1_who g) Q (10, [some .null, l1, l2], st, w, k, n) = WP (MX1_who g) Q (11, [some .null, l1, l2], .null :: st, w, k, n) := alnN_e rfl (dt_q dX1_who_0_D 6 rfl) rfl
theorem eX1_who_11 : WP (MX1_who g) Q (11, [l0, l1, l2], .ref p :: st, w, k, n) = go (rd g w p) 5 fun fs => ∃ v, fs[0]? = some v ∧ WP (MX1_who g) Q (14, [l0, l1, l2], v :: st, w, k, n) := get_e rfl (dt_q dX1_who_0_D 7 rfl) rfl
theorem eX1_who_14 : WP (MX1_who g) Q (14, [l0, some (.int a), l2], st, w, k, n) = WP (MX1_who g) Q (15, [l0, some (.int a), l2], .int a :: st, w, k, n) := iln_e rfl (dt_q dX1_who_0_D 8 rfl) rfl
theorem eX1_who_15 : WP (MX1_who g) Q (15, [l0, l1, l2], .int a :: .ref p :: st, w, k, n) = gl (rd g w p) 0 fun N f => vp_in a N ∧ WP (MX1_who g) Q (16, [l0, l1, l2], .long (f a.toNatClampNeg) :: st, w, k, n) := laload_e rfl (dt_q dX1_who_0_D 9 rfl)
theorem eX1_who_16 : WP (MX1_who g) Q (16, [l0, l1, some (.int a)], st, w, k, n) = WP (MX1_who g) Q (17, [l0, l1, some (.int a)], .int a :: st, w, k, n) := iln_e rfl (dt_q dX1_who_0_D 10 rfl) rfl
theorem eX1_who_17 : WP (MX1_who g) Q (17, [l0, l1, l2], st, w, k, n) = WP (MX1_who g) Q (18, [l0, l1, l2], .int 1 :: st, w, k, n) := ic_1 rfl (dt_q dX1_who_0_D 11 rfl)
theorem eX1_who_18 : WP (MX1_who g) Q (18, [l0, l1, l2], .int b :: .int a :: st, w, k, n) = if a = b then WP (MX1_who g) Q (21, [l0, l1, l2], st, w, k, n) else WP (MX1_who g) Q (25, [l0, l1, l2], st, w, k, n) := icmn_e (a = b) rfl (dt_q dX1_who_0_D 12 rfl) rfl (by decide)
theorem eX1_who_21 : WP (MX1_who g) Q (21, [l0, l1, l2], st, w, k, n) = WP (MX1_who g) Q (22, [l0, l1, l2], .int 1 :: st, w, k, n) := ic_1 rfl (dt_q dX1_who_0_D 13 rfl)
theorem eX1_who_22 : WP (MX1_who g) Q (22, [l0, l1, l2], st, w, k, n) = WP (MX1_who g) Q (26, [l0, l1, l2], st, w, k, n) := goto_e rfl (dt_q dX1_who_0_D 14 rfl) (by decide)
theorem eX1_who_25 : WP (MX1_who g) Q (25, [l0, l1, l2], st, w, k, n) = WP (MX1_who g) Q (26, [l0, l1, l2], .int 0 :: st, w, k, n) := ic_0 rfl (dt_q dX1_who_0_D 15 rfl)
theorem eX1_who_26 {z0 : Int64} {z1 : Int32} : WP (MX1_who g) Q (26, [l0, l1, l2], .int z1 :: .long z0 :: .ref p :: st, w, k, n) = (go (rd g w p) 5 (fun _ => True) ∧ wt st ≤ 8 ∧ k + 0 ≤ 2 ∧ n + 0 ≤ 12 ∧ WP (MX1_holdersOf g) (kx (fun v w' => WP (MX1_who g) Q (29, [l0, l1, l2], v.toList ++ st, w', k + 0, n + 0)) (fun E w' => Q (.inr E) w')) (0, [some (.ref p), some (.long z0), none, some (.int z1), none, none, none], [], w, 0, 0)) := csV0 (M := (MX1_who g)) (mc := (fun _ _ => 0)) (ms := (fun _ _ => 0)) (As := [.long z0, .int z1]) (rest := st) (MX1_holdersOf g) rfl rfl rfl (dt_q dX1_who_0_D 16 rfl) rfl rfl rfl rfl rfl rfl
theorem eX1_who_29 : WP (MX1_who g) Q (29, [l0, l1, l2], [.int a], w, k, n) = (k ≤ 2 ∧ n ≤ 12 ∧ Q (.inl (some (.int a))) w) := iretI_e rfl (dt_q dX1_who_0_D 17 rfl) rfl
end
theorem vMX1_who {l : Launch} (hl : l.stackTraces = false) (G : GT) : vM l G (MX1_who (gg G)) := vM_k RX1 cX1_who rfl rfl (all_c (vF_RX1_9) (all_n)) all_n all_n all_n all_n (fun h => absurd rfl h) (all_c (kc_116 hl wk_353) (all_c (kc_117 hl wk_440) (all_c (kc_107 hl wk_278) (all_n)))) all_n all_n (fun h => absurd rfl h) rfl all_n
theorem okX1_who {l : Launch} (hl : l.stackTraces = false) {G : GT} : ∀ (args : List Value) (w : Hw) (S : Ot → Hw → Prop), spOf (MX1_who (gg G)) args w S → CX l G yX1_who (.code yX1_who cX1_who 3 (some .int)) 7 2 12 args w S := CX_sp (M := MX1_who (gg G)) (y := yX1_who) hl (by decide) rfl (vMX1_who hl G) (fun h => by cases h) rfl
abbrev dX1_which_0_T : List (Nat × Instr × Nat) := [(0, .iload_n 1, 1), (1, .iconst 2, 1), (2, .invokestatic 48, 3), (5, .aload_n 0, 1), (6, .iload_n 1, 1), (7, .invokevirtual 175, 3), (10, .ireturn, 1)]
theorem dX1_which_0_D : dtc cX1_which dX1_which_0_T = true := by decide +kernel
def MX1_which (g : RO) : MT := ((RX1, cX1_which, 2, 7, 1, 6, false, some .int), [], [], [], [], [], 0, [(48, 0, 2, 0, 6, (fun _ _ => 1), (fun _ _ => 6), yX1_needChoice, spOf (MX1_needChoice g)), (175, 2, 2, 5, 3, (fun _ _ => 0), (fun _ _ => 0), yX1_cardsThatAre, spOf (MX1_cardsThatAre g))], [], [], 0, [], [], g)
section
variable {g : RO} {Q : Ot → Hw → Prop} {st : List Value} {w : Hw} {k n p q : Nat} {a b : Int32} {x y : Int64} {u v : Value} {l0 l1 : Option Value}
theorem eX1_which_0 : WP (MX1_which g) Q (0, [l0, some (.int a)], st, w, k, n) = WP (MX1_which g) Q (1, [l0, some (.int a)], .int a :: st, w, k, n) := iln_e rfl (dt_q dX1_which_0_D 0 rfl) rfl
theorem eX1_which_1 : WP (MX1_which g) Q (1, [l0, l1], st, w, k, n) = WP (MX1_which g) Q (2, [l0, l1], .int 2 :: st, w, k, n) := ic_2 rfl (dt_q dX1_which_0_D 1 rfl)
theorem eX1_which_2 {z0 : Int32} {z1 : Int32} : WP (MX1_which g) Q (2, [l0, l1], .int z1 :: .int z0 :: st, w, k, n) = (wt st ≤ 8 ∧ k + 1 ≤ 1 ∧ n + 6 ≤ 6 ∧ WP (MX1_needChoice g) (kx (fun v w' => WP (MX1_which g) Q (5, [l0, l1], v.toList ++ st, w', k + 1, n + 6)) (fun E w' => Q (.inr E) w')) (0, [some (.int z0), some (.int z1)], [], w, 0, 0)) := csS0 (M := (MX1_which g)) (mc := (fun _ _ => 1)) (ms := (fun _ _ => 6)) (As := [.int z0, .int z1]) (rest := st) (MX1_needChoice g) rfl rfl rfl (dt_q dX1_which_0_D 2 rfl) rfl rfl rfl rfl rfl rfl rfl
theorem eX1_which_5 : WP (MX1_which g) Q (5, [some (.ref p), l1], st, w, k, n) = WP (MX1_which g) Q (6, [some (.ref p), l1], .ref p :: st, w, k, n) := alnR_e rfl (dt_q dX1_which_0_D 3 rfl) rfl
theorem eX1_which_5N : WP (MX1_which g) Q (5, [some .null, l1], st, w, k, n) = WP (MX1_which g) Q (6, [some .null, l1], .null :: st, w, k, n) := alnN_e rfl (dt_q dX1_which_0_D 3 rfl) rfl
theorem eX1_which_6 : WP (MX1_which g) Q (6, [l0, some (.int a)], st, w, k, n) = WP (MX1_which g) Q (7, [l0, some (.int a)], .int a :: st, w, k, n) := iln_e rfl (dt_q dX1_which_0_D 4 rfl) rfl
theorem eX1_which_7 {z0 : Int32} : WP (MX1_which g) Q (7, [l0, l1], .int z0 :: .ref p :: st, w, k, n) = (go (rd g w p) 5 (fun _ => True) ∧ wt st ≤ 8 ∧ k + 0 ≤ 1 ∧ n + 0 ≤ 6 ∧ WP (MX1_cardsThatAre g) (kx (fun v w' => WP (MX1_which g) Q (10, [l0, l1], v.toList ++ st, w', k + 0, n + 0)) (fun E w' => Q (.inr E) w')) (0, [some (.ref p), some (.int z0), none, none, none], [], w, 0, 0)) := csV0 (M := (MX1_which g)) (mc := (fun _ _ => 0)) (ms := (fun _ _ => 0)) (As := [.int z0]) (rest := st) (MX1_cardsThatAre g) rfl rfl rfl (dt_q dX1_which_0_D 5 rfl) rfl rfl rfl rfl rfl rfl
theorem eX1_which_10 : WP (MX1_which g) Q (10, [l0, l1], [.int a], w, k, n) = (k ≤ 1 ∧ n ≤ 6 ∧ Q (.inl (some (.int a))) w) := iretI_e rfl (dt_q dX1_which_0_D 6 rfl) rfl
end
theorem vMX1_which {l : Launch} (hl : l.stackTraces = false) (G : GT) : vM l G (MX1_which (gg G)) := vM_k RX1 cX1_which rfl rfl all_n all_n all_n all_n all_n (fun h => absurd rfl h) (all_c (kc_117 hl wk_440) (all_c (kc_114 hl wk_316) (all_n))) all_n all_n (fun h => absurd rfl h) rfl all_n
theorem okX1_which {l : Launch} (hl : l.stackTraces = false) {G : GT} : ∀ (args : List Value) (w : Hw) (S : Ot → Hw → Prop), spOf (MX1_which (gg G)) args w S → CX l G yX1_which (.code yX1_which cX1_which 2 (some .int)) 7 1 6 args w S := CX_sp (M := MX1_which (gg G)) (y := yX1_which) hl (by decide) rfl (vMX1_which hl G) (fun h => by cases h) rfl
abbrev dX1_areSame_0_T : List (Nat × Instr × Nat) := [(0, .iload_n 1, 1), (1, .invokestatic 79, 3), (4, .iload_n 2, 1), (5, .invokestatic 79, 3), (8, .aload_n 0, 1), (9, .iload_n 1, 1), (10, .invokevirtual 98, 3), (13, .aload_n 0, 1), (14, .iload_n 2, 1), (15, .invokevirtual 98, 3), (18, .invokevirtual 110, 3), (21, .ireturn, 1)]
theorem dX1_areSame_0_D : dtc cX1_areSame dX1_areSame_0_T = true := by decide +kernel
def MX1_areSame (g : RO) : MT := ((RX1, cX1_areSame, 3, 8, 6, 36, false, some .boolean), [], [], [], [], [], 0, [(79, 0, 1, 0, 6, (fun _ _ => 1), (fun _ _ => 6), yX1_needCard, spOf (MX1_needCard g)), (98, 2, 2, 5, 7, (fun _ _ => 2), (fun _ _ => 12), yX1_rangeOf, spOf (MX1_rangeOf g)), (110, 3, 2, 4, 1, (fun _ _ => 0), (fun _ _ => 0), yX0_matches, spOf (MX0_matches g))], [], [], 0, [], [], g)
section
variable {g : RO} {Q : Ot → Hw → Prop} {st : List Value} {w : Hw} {k n p q : Nat} {a b : Int32} {x y : Int64} {u v : Value} {l0 l1 l2 : Option Value}
theorem eX1_areSame_0 : WP (MX1_areSame g) Q (0, [l0, some (.int a), l2], st, w, k, n) = WP (MX1_areSame g) Q (1, [l0, some (.int a), l2], .int a :: st, w, k, n) := iln_e rfl (dt_q dX1_areSame_0_D 0 rfl) rfl
theorem eX1_areSame_1 {z0 : Int32} : WP (MX1_areSame g) Q (1, [l0, l1, l2], .int z0 :: st, w, k, n) = (wt st ≤ 8 ∧ k + 1 ≤ 6 ∧ n + 6 ≤ 36 ∧ WP (MX1_needCard g) (kx (fun v w' => WP (MX1_areSame g) Q (4, [l0, l1, l2], v.toList ++ st, w', k + 1, n + 6)) (fun E w' => Q (.inr E) w')) (0, [some (.int z0)], [], w, 0, 0)) := csS0 (M := (MX1_areSame g)) (mc := (fun _ _ => 1)) (ms := (fun _ _ => 6)) (As := [.int z0]) (rest := st) (MX1_needCard g) rfl rfl rfl (dt_q dX1_areSame_0_D 1 rfl) rfl rfl rfl rfl rfl rfl rfl
theorem eX1_areSame_4 : WP (MX1_areSame g) Q (4, [l0, l1, some (.int a)], st, w, k, n) = WP (MX1_areSame g) Q (5, [l0, l1, some (.int a)], .int a :: st, w, k, n) := iln_e rfl (dt_q dX1_areSame_0_D 2 rfl) rfl
theorem eX1_areSame_5 {z0 : Int32} : WP (MX1_areSame g) Q (5, [l0, l1, l2], .int z0 :: st, w, k, n) = (wt st ≤ 8 ∧ k + 1 ≤ 6 ∧ n + 6 ≤ 36 ∧ WP (MX1_needCard g) (kx (fun v w' => WP (MX1_areSame g) Q (8, [l0, l1, l2], v.toList ++ st, w', k + 1, n + 6)) (fun E w' => Q (.inr E) w')) (0, [some (.int z0)], [], w, 0, 0)) := csS0 (M := (MX1_areSame g)) (mc := (fun _ _ => 1)) (ms := (fun _ _ => 6)) (As := [.int z0]) (rest := st) (MX1_needCard g) rfl rfl rfl (dt_q dX1_areSame_0_D 3 rfl) rfl rfl rfl rfl rfl rfl rfl
theorem eX1_areSame_8 : WP (MX1_areSame g) Q (8, [some (.ref p), l1, l2], st, w, k, n) = WP (MX1_areSame g) Q (9, [some (.ref p), l1, l2], .ref p :: st, w, k, n) := alnR_e rfl (dt_q dX1_areSame_0_D 4 rfl) rfl
theorem eX1_areSame_8N : WP (MX1_areSame g) Q (8, [some .null, l1, l2], st, w, k, n) = WP (MX1_areSame g) Q (9, [some .null, l1, l2], .null :: st, w, k, n) := alnN_e rfl (dt_q dX1_areSame_0_D 4 rfl) rfl
theorem eX1_areSame_9 : WP (MX1_areSame g) Q (9, [l0, some (.int a), l2], st, w, k, n) = WP (MX1_areSame g) Q (10, [l0, some (.int a), l2], .int a :: st, w, k, n) := iln_e rfl (dt_q dX1_areSame_0_D 5 rfl) rfl
theorem eX1_areSame_10 {z0 : Int32} : WP (MX1_areSame g) Q (10, [l0, l1, l2], .int z0 :: .ref p :: st, w, k, n) = (go (rd g w p) 5 (fun _ => True) ∧ wt st ≤ 8 ∧ k + 2 ≤ 6 ∧ n + 12 ≤ 36 ∧ WP (MX1_rangeOf g) (kx (fun v w' => WP (MX1_areSame g) Q (13, [l0, l1, l2], v.toList ++ st, w', k + 2, n + 12)) (fun E w' => Q (.inr E) w')) (0, [some (.ref p), some (.int z0), none], [], w, 0, 0)) := csV0 (M := (MX1_areSame g)) (mc := (fun _ _ => 2)) (ms := (fun _ _ => 12)) (As := [.int z0]) (rest := st) (MX1_rangeOf g) rfl rfl rfl (dt_q dX1_areSame_0_D 6 rfl) rfl rfl rfl rfl rfl rfl
theorem eX1_areSame_13 : WP (MX1_areSame g) Q (13, [some (.ref p), l1, l2], st, w, k, n) = WP (MX1_areSame g) Q (14, [some (.ref p), l1, l2], .ref p :: st, w, k, n) := alnR_e rfl (dt_q dX1_areSame_0_D 7 rfl) rfl
theorem eX1_areSame_13N : WP (MX1_areSame g) Q (13, [some .null, l1, l2], st, w, k, n) = WP (MX1_areSame g) Q (14, [some .null, l1, l2], .null :: st, w, k, n) := alnN_e rfl (dt_q dX1_areSame_0_D 7 rfl) rfl
theorem eX1_areSame_14 : WP (MX1_areSame g) Q (14, [l0, l1, some (.int a)], st, w, k, n) = WP (MX1_areSame g) Q (15, [l0, l1, some (.int a)], .int a :: st, w, k, n) := iln_e rfl (dt_q dX1_areSame_0_D 8 rfl) rfl
theorem eX1_areSame_15 {z0 : Int32} : WP (MX1_areSame g) Q (15, [l0, l1, l2], .int z0 :: .ref p :: st, w, k, n) = (go (rd g w p) 5 (fun _ => True) ∧ wt st ≤ 8 ∧ k + 2 ≤ 6 ∧ n + 12 ≤ 36 ∧ WP (MX1_rangeOf g) (kx (fun v w' => WP (MX1_areSame g) Q (18, [l0, l1, l2], v.toList ++ st, w', k + 2, n + 12)) (fun E w' => Q (.inr E) w')) (0, [some (.ref p), some (.int z0), none], [], w, 0, 0)) := csV0 (M := (MX1_areSame g)) (mc := (fun _ _ => 2)) (ms := (fun _ _ => 12)) (As := [.int z0]) (rest := st) (MX1_rangeOf g) rfl rfl rfl (dt_q dX1_areSame_0_D 9 rfl) rfl rfl rfl rfl rfl rfl
theorem eX1_areSame_18R {z0 : Nat} : WP (MX1_areSame g) Q (18, [l0, l1, l2], .ref z0 :: .ref p :: st, w, k, n) = (go (rd g w p) 4 (fun _ => True) ∧ wt st ≤ 8 ∧ k + 0 ≤ 6 ∧ n + 0 ≤ 36 ∧ WP (MX0_matches g) (kx (fun v w' => WP (MX1_areSame g) Q (21, [l0, l1, l2], v.toList ++ st, w', k + 0, n + 0)) (fun E w' => Q (.inr E) w')) (0, [some (.ref p), some (.ref z0)], [], w, 0, 0)) := csV0 (M := (MX1_areSame g)) (mc := (fun _ _ => 0)) (ms := (fun _ _ => 0)) (As := [.ref z0]) (rest := st) (MX0_matches g) rfl rfl rfl (dt_q dX1_areSame_0_D 10 rfl) rfl rfl rfl rfl rfl rfl
theorem eX1_areSame_18N  : WP (MX1_areSame g) Q (18, [l0, l1, l2], .null :: .ref p :: st, w, k, n) = (go (rd g w p) 4 (fun _ => True) ∧ wt st ≤ 8 ∧ k + 0 ≤ 6 ∧ n + 0 ≤ 36 ∧ WP (MX0_matches g) (kx (fun v w' => WP (MX1_areSame g) Q (21, [l0, l1, l2], v.toList ++ st, w', k + 0, n + 0)) (fun E w' => Q (.inr E) w')) (0, [some (.ref p), some .null], [], w, 0, 0)) := csV0 (M := (MX1_areSame g)) (mc := (fun _ _ => 0)) (ms := (fun _ _ => 0)) (As := [.null]) (rest := st) (MX0_matches g) rfl rfl rfl (dt_q dX1_areSame_0_D 10 rfl) rfl rfl rfl rfl rfl rfl
theorem eX1_areSame_21 : WP (MX1_areSame g) Q (21, [l0, l1, l2], [.int a], w, k, n) = (narrow (.boolean) (.int a) = .int a ∧ k ≤ 6 ∧ n ≤ 36 ∧ Q (.inl (some (.int a))) w) := iret_e rfl (dt_q dX1_areSame_0_D 11 rfl) rfl
end
theorem vMX1_areSame {l : Launch} (hl : l.stackTraces = false) (G : GT) : vM l G (MX1_areSame (gg G)) := vM_k RX1 cX1_areSame rfl rfl all_n all_n all_n all_n all_n (fun h => absurd rfl h) (all_c (kc_78 hl wk_816) (all_c (kc_123 hl wk_874) (all_c (kc_93 hl (⟨"Rangecard", tm_1 (List.mem_of_getElem? (i := 118) rfl)⟩)) (all_n)))) all_n all_n (fun h => absurd rfl h) rfl all_n
theorem okX1_areSame {l : Launch} (hl : l.stackTraces = false) {G : GT} : ∀ (args : List Value) (w : Hw) (S : Ot → Hw → Prop), spOf (MX1_areSame (gg G)) args w S → CX l G yX1_areSame (.code yX1_areSame cX1_areSame 3 (some .boolean)) 8 6 36 args w S := CX_sp (M := MX1_areSame (gg G)) (y := yX1_areSame) hl (by decide) rfl (vMX1_areSame hl G) (fun h => by cases h) rfl
abbrev dX1_isSameAs_0_T : List (Nat × Instr × Nat) := [(0, .iload_n 1, 1), (1, .invokestatic 79, 3), (4, .iload_n 2, 1), (5, .iconst 4, 1), (6, .invokestatic 48, 3), (9, .aload_n 0, 1), (10, .iload_n 1, 1), (11, .invokevirtual 98, 3), (14, .astore_n 3, 1), (15, .iload_n 2, 1), (16, .tableswitch 52 2 4 #[28, 37, 43], 28), (44, .aload_n 3, 1), (45, .aload_n 3, 1), (46, .invokestatic 102, 3), (49, .invokevirtual 110, 3), (52, .ireturn, 1), (53, .aload_n 3, 1), (54, .aload_n 3, 1), (55, .invokevirtual 110, 3), (58, .ireturn, 1), (59, .aload_n 3, 1), (60, .aload_n 3, 1), (61, .invokestatic 114, 3), (64, .invokevirtual 110, 3), (67, .ireturn, 1), (68, .iconst 0, 1), (69, .ireturn, 1)]
theorem dX1_isSameAs_0_D : dtc cX1_isSameAs dX1_isSameAs_0_T = true := by decide +kernel
def MX1_isSameAs (g : RO) : MT := ((RX1, cX1_isSameAs, 4, 8, 6, 32, false, some .boolean), [], [], [], [], [], 0, [(79, 0, 1, 0, 6, (fun _ _ => 1), (fun _ _ => 6), yX1_needCard, spOf (MX1_needCard g)), (48, 0, 2, 0, 6, (fun _ _ => 1), (fun _ _ => 6), yX1_needChoice, spOf (MX1_needChoice g)), (98, 2, 2, 5, 7, (fun _ _ => 2), (fun _ _ => 12), yX1_rangeOf, spOf (MX1_rangeOf g)), (102, 0, 1, 0, 3, (fun _ _ => 1), (fun _ _ => 4), yX1_copyOf, spOf (MX1_copyOf g)), (110, 3, 2, 4, 1, (fun _ _ => 0), (fun _ _ => 0), yX0_matches, spOf (MX0_matches g)), (114, 0, 1, 0, 4, (fun _ _ => 1), (fun _ _ => 4), yX1_outerOf, spOf (MX1_outerOf g))], [], [], 0, [], [], g)
section
variable {g : RO} {Q : Ot → Hw → Prop} {st : List Value} {w : Hw} {k n p q : Nat} {a b : Int32} {x y : Int64} {u v : Value} {l0 l1 l2 l3 : Option Value}
theorem eX1_isSameAs_0 : WP (MX1_isSameAs g) Q (0, [l0, some (.int a), l2, l3], st, w, k, n) = WP (MX1_isSameAs g) Q (1, [l0, some (.int a), l2, l3], .int a :: st, w, k, n) := iln_e rfl (dt_q dX1_isSameAs_0_D 0 rfl) rfl
theorem eX1_isSameAs_1 {z0 : Int32} : WP (MX1_isSameAs g) Q (1, [l0, l1, l2, l3], .int z0 :: st, w, k, n) = (wt st ≤ 8 ∧ k + 1 ≤ 6 ∧ n + 6 ≤ 32 ∧ WP (MX1_needCard g) (kx (fun v w' => WP (MX1_isSameAs g) Q (4, [l0, l1, l2, l3], v.toList ++ st, w', k + 1, n + 6)) (fun E w' => Q (.inr E) w')) (0, [some (.int z0)], [], w, 0, 0)) := csS0 (M := (MX1_isSameAs g)) (mc := (fun _ _ => 1)) (ms := (fun _ _ => 6)) (As := [.int z0]) (rest := st) (MX1_needCard g) rfl rfl rfl (dt_q dX1_isSameAs_0_D 1 rfl) rfl rfl rfl rfl rfl rfl rfl
theorem eX1_isSameAs_4 : WP (MX1_isSameAs g) Q (4, [l0, l1, some (.int a), l3], st, w, k, n) = WP (MX1_isSameAs g) Q (5, [l0, l1, some (.int a), l3], .int a :: st, w, k, n) := iln_e rfl (dt_q dX1_isSameAs_0_D 2 rfl) rfl
theorem eX1_isSameAs_5 : WP (MX1_isSameAs g) Q (5, [l0, l1, l2, l3], st, w, k, n) = WP (MX1_isSameAs g) Q (6, [l0, l1, l2, l3], .int 4 :: st, w, k, n) := ic_4 rfl (dt_q dX1_isSameAs_0_D 3 rfl)
theorem eX1_isSameAs_6 {z0 : Int32} {z1 : Int32} : WP (MX1_isSameAs g) Q (6, [l0, l1, l2, l3], .int z1 :: .int z0 :: st, w, k, n) = (wt st ≤ 8 ∧ k + 1 ≤ 6 ∧ n + 6 ≤ 32 ∧ WP (MX1_needChoice g) (kx (fun v w' => WP (MX1_isSameAs g) Q (9, [l0, l1, l2, l3], v.toList ++ st, w', k + 1, n + 6)) (fun E w' => Q (.inr E) w')) (0, [some (.int z0), some (.int z1)], [], w, 0, 0)) := csS0 (M := (MX1_isSameAs g)) (mc := (fun _ _ => 1)) (ms := (fun _ _ => 6)) (As := [.int z0, .int z1]) (rest := st) (MX1_needChoice g) rfl rfl rfl (dt_q dX1_isSameAs_0_D 4 rfl) rfl rfl rfl rfl rfl rfl rfl
theorem eX1_isSameAs_9 : WP (MX1_isSameAs g) Q (9, [some (.ref p), l1, l2, l3], st, w, k, n) = WP (MX1_isSameAs g) Q (10, [some (.ref p), l1, l2, l3], .ref p :: st, w, k, n) := alnR_e rfl (dt_q dX1_isSameAs_0_D 5 rfl) rfl
theorem eX1_isSameAs_9N : WP (MX1_isSameAs g) Q (9, [some .null, l1, l2, l3], st, w, k, n) = WP (MX1_isSameAs g) Q (10, [some .null, l1, l2, l3], .null :: st, w, k, n) := alnN_e rfl (dt_q dX1_isSameAs_0_D 5 rfl) rfl
theorem eX1_isSameAs_10 : WP (MX1_isSameAs g) Q (10, [l0, some (.int a), l2, l3], st, w, k, n) = WP (MX1_isSameAs g) Q (11, [l0, some (.int a), l2, l3], .int a :: st, w, k, n) := iln_e rfl (dt_q dX1_isSameAs_0_D 6 rfl) rfl
theorem eX1_isSameAs_11 {z0 : Int32} : WP (MX1_isSameAs g) Q (11, [l0, l1, l2, l3], .int z0 :: .ref p :: st, w, k, n) = (go (rd g w p) 5 (fun _ => True) ∧ wt st ≤ 8 ∧ k + 2 ≤ 6 ∧ n + 12 ≤ 32 ∧ WP (MX1_rangeOf g) (kx (fun v w' => WP (MX1_isSameAs g) Q (14, [l0, l1, l2, l3], v.toList ++ st, w', k + 2, n + 12)) (fun E w' => Q (.inr E) w')) (0, [some (.ref p), some (.int z0), none], [], w, 0, 0)) := csV0 (M := (MX1_isSameAs g)) (mc := (fun _ _ => 2)) (ms := (fun _ _ => 12)) (As := [.int z0]) (rest := st) (MX1_rangeOf g) rfl rfl rfl (dt_q dX1_isSameAs_0_D 7 rfl) rfl rfl rfl rfl rfl rfl
theorem eX1_isSameAs_14 : WP (MX1_isSameAs g) Q (14, [l0, l1, l2, l3], .ref p :: st, w, k, n) = WP (MX1_isSameAs g) Q (15, [l0, l1, nl l2, some (.ref p)], st, w, k, n) := asnR_e rfl (dt_q dX1_isSameAs_0_D 8 rfl) rfl rfl
theorem eX1_isSameAs_14N : WP (MX1_isSameAs g) Q (14, [l0, l1, l2, l3], .null :: st, w, k, n) = WP (MX1_isSameAs g) Q (15, [l0, l1, nl l2, some (.null)], st, w, k, n) := asnN_e rfl (dt_q dX1_isSameAs_0_D 8 rfl) rfl rfl
theorem eX1_isSameAs_15 : WP (MX1_isSameAs g) Q (15, [l0, l1, some (.int a), l3], st, w, k, n) = WP (MX1_isSameAs g) Q (16, [l0, l1, some (.int a), l3], .int a :: st, w, k, n) := iln_e rfl (dt_q dX1_isSameAs_0_D 9 rfl) rfl
theorem eX1_isSameAs_16_0 : WP (MX1_isSameAs g) Q (16, [l0, l1, l2, l3], .int 2 :: st, w, k, n) = WP (MX1_isSameAs g) Q (44, [l0, l1, l2, l3], st, w, k, n) := tsw_e (off := 28) rfl (dt_q dX1_isSameAs_0_D 10 rfl) (by decide) (by decide) (by decide) (by decide) (by decide)
theorem eX1_isSameAs_16_1 : WP (MX1_isSameAs g) Q (16, [l0, l1, l2, l3], .int 3 :: st, w, k, n) = WP (MX1_isSameAs g) Q (53, [l0, l1, l2, l3], st, w, k, n) := tsw_e (off := 37) rfl (dt_q dX1_isSameAs_0_D 10 rfl) (by decide) (by decide) (by decide) (by decide) (by decide)
theorem eX1_isSameAs_16_2 : WP (MX1_isSameAs g) Q (16, [l0, l1, l2, l3], .int 4 :: st, w, k, n) = WP (MX1_isSameAs g) Q (59, [l0, l1, l2, l3], st, w, k, n) := tsw_e (off := 43) rfl (dt_q dX1_isSameAs_0_D 10 rfl) (by decide) (by decide) (by decide) (by decide) (by decide)
theorem eX1_isSameAs_16_d5 : WP (MX1_isSameAs g) Q (16, [l0, l1, l2, l3], .int 5 :: st, w, k, n) = WP (MX1_isSameAs g) Q (68, [l0, l1, l2, l3], st, w, k, n) := tswd_e rfl (dt_q dX1_isSameAs_0_D 10 rfl) (by decide) (by decide)
theorem eX1_isSameAs_16_d6 : WP (MX1_isSameAs g) Q (16, [l0, l1, l2, l3], .int 6 :: st, w, k, n) = WP (MX1_isSameAs g) Q (68, [l0, l1, l2, l3], st, w, k, n) := tswd_e rfl (dt_q dX1_isSameAs_0_D 10 rfl) (by decide) (by decide)
theorem eX1_isSameAs_16_d (h : a.toInt < 2 ∨ 4 < a.toInt) : WP (MX1_isSameAs g) Q (16, [l0, l1, l2, l3], .int a :: st, w, k, n) = WP (MX1_isSameAs g) Q (68, [l0, l1, l2, l3], st, w, k, n) := tswd_e rfl (dt_q dX1_isSameAs_0_D 10 rfl) h (by decide)
theorem eX1_isSameAs_44 : WP (MX1_isSameAs g) Q (44, [l0, l1, l2, some (.ref p)], st, w, k, n) = WP (MX1_isSameAs g) Q (45, [l0, l1, l2, some (.ref p)], .ref p :: st, w, k, n) := alnR_e rfl (dt_q dX1_isSameAs_0_D 11 rfl) rfl
theorem eX1_isSameAs_44N : WP (MX1_isSameAs g) Q (44, [l0, l1, l2, some .null], st, w, k, n) = WP (MX1_isSameAs g) Q (45, [l0, l1, l2, some .null], .null :: st, w, k, n) := alnN_e rfl (dt_q dX1_isSameAs_0_D 11 rfl) rfl
theorem eX1_isSameAs_45 : WP (MX1_isSameAs g) Q (45, [l0, l1, l2, some (.ref p)], st, w, k, n) = WP (MX1_isSameAs g) Q (46, [l0, l1, l2, some (.ref p)], .ref p :: st, w, k, n) := alnR_e rfl (dt_q dX1_isSameAs_0_D 12 rfl) rfl
theorem eX1_isSameAs_45N : WP (MX1_isSameAs g) Q (45, [l0, l1, l2, some .null], st, w, k, n) = WP (MX1_isSameAs g) Q (46, [l0, l1, l2, some .null], .null :: st, w, k, n) := alnN_e rfl (dt_q dX1_isSameAs_0_D 12 rfl) rfl
theorem eX1_isSameAs_46R {z0 : Nat} : WP (MX1_isSameAs g) Q (46, [l0, l1, l2, l3], .ref z0 :: st, w, k, n) = (wt st ≤ 8 ∧ k + 1 ≤ 6 ∧ n + 4 ≤ 32 ∧ WP (MX1_copyOf g) (kx (fun v w' => WP (MX1_isSameAs g) Q (49, [l0, l1, l2, l3], v.toList ++ st, w', k + 1, n + 4)) (fun E w' => Q (.inr E) w')) (0, [some (.ref z0)], [], w, 0, 0)) := csS0 (M := (MX1_isSameAs g)) (mc := (fun _ _ => 1)) (ms := (fun _ _ => 4)) (As := [.ref z0]) (rest := st) (MX1_copyOf g) rfl rfl rfl (dt_q dX1_isSameAs_0_D 13 rfl) rfl rfl rfl rfl rfl rfl rfl
theorem eX1_isSameAs_46N  : WP (MX1_isSameAs g) Q (46, [l0, l1, l2, l3], .null :: st, w, k, n) = (wt st ≤ 8 ∧ k + 1 ≤ 6 ∧ n + 4 ≤ 32 ∧ WP (MX1_copyOf g) (kx (fun v w' => WP (MX1_isSameAs g) Q (49, [l0, l1, l2, l3], v.toList ++ st, w', k + 1, n + 4)) (fun E w' => Q (.inr E) w')) (0, [some .null], [], w, 0, 0)) := csS0 (M := (MX1_isSameAs g)) (mc := (fun _ _ => 1)) (ms := (fun _ _ => 4)) (As := [.null]) (rest := st) (MX1_copyOf g) rfl rfl rfl (dt_q dX1_isSameAs_0_D 13 rfl) rfl rfl rfl rfl rfl rfl rfl
theorem eX1_isSameAs_49R {z0 : Nat} : WP (MX1_isSameAs g) Q (49, [l0, l1, l2, l3], .ref z0 :: .ref p :: st, w, k, n) = (go (rd g w p) 4 (fun _ => True) ∧ wt st ≤ 8 ∧ k + 0 ≤ 6 ∧ n + 0 ≤ 32 ∧ WP (MX0_matches g) (kx (fun v w' => WP (MX1_isSameAs g) Q (52, [l0, l1, l2, l3], v.toList ++ st, w', k + 0, n + 0)) (fun E w' => Q (.inr E) w')) (0, [some (.ref p), some (.ref z0)], [], w, 0, 0)) := csV0 (M := (MX1_isSameAs g)) (mc := (fun _ _ => 0)) (ms := (fun _ _ => 0)) (As := [.ref z0]) (rest := st) (MX0_matches g) rfl rfl rfl (dt_q dX1_isSameAs_0_D 14 rfl) rfl rfl rfl rfl rfl rfl
theorem eX1_isSameAs_49N  : WP (MX1_isSameAs g) Q (49, [l0, l1, l2, l3], .null :: .ref p :: st, w, k, n) = (go (rd g w p) 4 (fun _ => True) ∧ wt st ≤ 8 ∧ k + 0 ≤ 6 ∧ n + 0 ≤ 32 ∧ WP (MX0_matches g) (kx (fun v w' => WP (MX1_isSameAs g) Q (52, [l0, l1, l2, l3], v.toList ++ st, w', k + 0, n + 0)) (fun E w' => Q (.inr E) w')) (0, [some (.ref p), some .null], [], w, 0, 0)) := csV0 (M := (MX1_isSameAs g)) (mc := (fun _ _ => 0)) (ms := (fun _ _ => 0)) (As := [.null]) (rest := st) (MX0_matches g) rfl rfl rfl (dt_q dX1_isSameAs_0_D 14 rfl) rfl rfl rfl rfl rfl rfl
theorem eX1_isSameAs_52 : WP (MX1_isSameAs g) Q (52, [l0, l1, l2, l3], [.int a], w, k, n) = (narrow (.boolean) (.int a) = .int a ∧ k ≤ 6 ∧ n ≤ 32 ∧ Q (.inl (some (.int a))) w) := iret_e rfl (dt_q dX1_isSameAs_0_D 15 rfl) rfl
theorem eX1_isSameAs_53 : WP (MX1_isSameAs g) Q (53, [l0, l1, l2, some (.ref p)], st, w, k, n) = WP (MX1_isSameAs g) Q (54, [l0, l1, l2, some (.ref p)], .ref p :: st, w, k, n) := alnR_e rfl (dt_q dX1_isSameAs_0_D 16 rfl) rfl
theorem eX1_isSameAs_53N : WP (MX1_isSameAs g) Q (53, [l0, l1, l2, some .null], st, w, k, n) = WP (MX1_isSameAs g) Q (54, [l0, l1, l2, some .null], .null :: st, w, k, n) := alnN_e rfl (dt_q dX1_isSameAs_0_D 16 rfl) rfl
theorem eX1_isSameAs_54 : WP (MX1_isSameAs g) Q (54, [l0, l1, l2, some (.ref p)], st, w, k, n) = WP (MX1_isSameAs g) Q (55, [l0, l1, l2, some (.ref p)], .ref p :: st, w, k, n) := alnR_e rfl (dt_q dX1_isSameAs_0_D 17 rfl) rfl
theorem eX1_isSameAs_54N : WP (MX1_isSameAs g) Q (54, [l0, l1, l2, some .null], st, w, k, n) = WP (MX1_isSameAs g) Q (55, [l0, l1, l2, some .null], .null :: st, w, k, n) := alnN_e rfl (dt_q dX1_isSameAs_0_D 17 rfl) rfl
theorem eX1_isSameAs_55R {z0 : Nat} : WP (MX1_isSameAs g) Q (55, [l0, l1, l2, l3], .ref z0 :: .ref p :: st, w, k, n) = (go (rd g w p) 4 (fun _ => True) ∧ wt st ≤ 8 ∧ k + 0 ≤ 6 ∧ n + 0 ≤ 32 ∧ WP (MX0_matches g) (kx (fun v w' => WP (MX1_isSameAs g) Q (58, [l0, l1, l2, l3], v.toList ++ st, w', k + 0, n + 0)) (fun E w' => Q (.inr E) w')) (0, [some (.ref p), some (.ref z0)], [], w, 0, 0)) := csV0 (M := (MX1_isSameAs g)) (mc := (fun _ _ => 0)) (ms := (fun _ _ => 0)) (As := [.ref z0]) (rest := st) (MX0_matches g) rfl rfl rfl (dt_q dX1_isSameAs_0_D 18 rfl) rfl rfl rfl rfl rfl rfl
theorem eX1_isSameAs_55N  : WP (MX1_isSameAs g) Q (55, [l0, l1, l2, l3], .null :: .ref p :: st, w, k, n) = (go (rd g w p) 4 (fun _ => True) ∧ wt st ≤ 8 ∧ k + 0 ≤ 6 ∧ n + 0 ≤ 32 ∧ WP (MX0_matches g) (kx (fun v w' => WP (MX1_isSameAs g) Q (58, [l0, l1, l2, l3], v.toList ++ st, w', k + 0, n + 0)) (fun E w' => Q (.inr E) w')) (0, [some (.ref p), some .null], [], w, 0, 0)) := csV0 (M := (MX1_isSameAs g)) (mc := (fun _ _ => 0)) (ms := (fun _ _ => 0)) (As := [.null]) (rest := st) (MX0_matches g) rfl rfl rfl (dt_q dX1_isSameAs_0_D 18 rfl) rfl rfl rfl rfl rfl rfl
theorem eX1_isSameAs_58 : WP (MX1_isSameAs g) Q (58, [l0, l1, l2, l3], [.int a], w, k, n) = (narrow (.boolean) (.int a) = .int a ∧ k ≤ 6 ∧ n ≤ 32 ∧ Q (.inl (some (.int a))) w) := iret_e rfl (dt_q dX1_isSameAs_0_D 19 rfl) rfl
theorem eX1_isSameAs_59 : WP (MX1_isSameAs g) Q (59, [l0, l1, l2, some (.ref p)], st, w, k, n) = WP (MX1_isSameAs g) Q (60, [l0, l1, l2, some (.ref p)], .ref p :: st, w, k, n) := alnR_e rfl (dt_q dX1_isSameAs_0_D 20 rfl) rfl
theorem eX1_isSameAs_59N : WP (MX1_isSameAs g) Q (59, [l0, l1, l2, some .null], st, w, k, n) = WP (MX1_isSameAs g) Q (60, [l0, l1, l2, some .null], .null :: st, w, k, n) := alnN_e rfl (dt_q dX1_isSameAs_0_D 20 rfl) rfl
theorem eX1_isSameAs_60 : WP (MX1_isSameAs g) Q (60, [l0, l1, l2, some (.ref p)], st, w, k, n) = WP (MX1_isSameAs g) Q (61, [l0, l1, l2, some (.ref p)], .ref p :: st, w, k, n) := alnR_e rfl (dt_q dX1_isSameAs_0_D 21 rfl) rfl
theorem eX1_isSameAs_60N : WP (MX1_isSameAs g) Q (60, [l0, l1, l2, some .null], st, w, k, n) = WP (MX1_isSameAs g) Q (61, [l0, l1, l2, some .null], .null :: st, w, k, n) := alnN_e rfl (dt_q dX1_isSameAs_0_D 21 rfl) rfl
theorem eX1_isSameAs_61R {z0 : Nat} : WP (MX1_isSameAs g) Q (61, [l0, l1, l2, l3], .ref z0 :: st, w, k, n) = (wt st ≤ 8 ∧ k + 1 ≤ 6 ∧ n + 4 ≤ 32 ∧ WP (MX1_outerOf g) (kx (fun v w' => WP (MX1_isSameAs g) Q (64, [l0, l1, l2, l3], v.toList ++ st, w', k + 1, n + 4)) (fun E w' => Q (.inr E) w')) (0, [some (.ref z0)], [], w, 0, 0)) := csS0 (M := (MX1_isSameAs g)) (mc := (fun _ _ => 1)) (ms := (fun _ _ => 4)) (As := [.ref z0]) (rest := st) (MX1_outerOf g) rfl rfl rfl (dt_q dX1_isSameAs_0_D 22 rfl) rfl rfl rfl rfl rfl rfl rfl
theorem eX1_isSameAs_61N  : WP (MX1_isSameAs g) Q (61, [l0, l1, l2, l3], .null :: st, w, k, n) = (wt st ≤ 8 ∧ k + 1 ≤ 6 ∧ n + 4 ≤ 32 ∧ WP (MX1_outerOf g) (kx (fun v w' => WP (MX1_isSameAs g) Q (64, [l0, l1, l2, l3], v.toList ++ st, w', k + 1, n + 4)) (fun E w' => Q (.inr E) w')) (0, [some .null], [], w, 0, 0)) := csS0 (M := (MX1_isSameAs g)) (mc := (fun _ _ => 1)) (ms := (fun _ _ => 4)) (As := [.null]) (rest := st) (MX1_outerOf g) rfl rfl rfl (dt_q dX1_isSameAs_0_D 22 rfl) rfl rfl rfl rfl rfl rfl rfl
theorem eX1_isSameAs_64R {z0 : Nat} : WP (MX1_isSameAs g) Q (64, [l0, l1, l2, l3], .ref z0 :: .ref p :: st, w, k, n) = (go (rd g w p) 4 (fun _ => True) ∧ wt st ≤ 8 ∧ k + 0 ≤ 6 ∧ n + 0 ≤ 32 ∧ WP (MX0_matches g) (kx (fun v w' => WP (MX1_isSameAs g) Q (67, [l0, l1, l2, l3], v.toList ++ st, w', k + 0, n + 0)) (fun E w' => Q (.inr E) w')) (0, [some (.ref p), some (.ref z0)], [], w, 0, 0)) := csV0 (M := (MX1_isSameAs g)) (mc := (fun _ _ => 0)) (ms := (fun _ _ => 0)) (As := [.ref z0]) (rest := st) (MX0_matches g) rfl rfl rfl (dt_q dX1_isSameAs_0_D 23 rfl) rfl rfl rfl rfl rfl rfl
theorem eX1_isSameAs_64N  : WP (MX1_isSameAs g) Q (64, [l0, l1, l2, l3], .null :: .ref p :: st, w, k, n) = (go (rd g w p) 4 (fun _ => True) ∧ wt st ≤ 8 ∧ k + 0 ≤ 6 ∧ n + 0 ≤ 32 ∧ WP (MX0_matches g) (kx (fun v w' => WP (MX1_isSameAs g) Q (67, [l0, l1, l2, l3], v.toList ++ st, w', k + 0, n + 0)) (fun E w' => Q (.inr E) w')) (0, [some (.ref p), some .null], [], w, 0, 0)) := csV0 (M := (MX1_isSameAs g)) (mc := (fun _ _ => 0)) (ms := (fun _ _ => 0)) (As := [.null]) (rest := st) (MX0_matches g) rfl rfl rfl (dt_q dX1_isSameAs_0_D 23 rfl) rfl rfl rfl rfl rfl rfl
theorem eX1_isSameAs_67 : WP (MX1_isSameAs g) Q (67, [l0, l1, l2, l3], [.int a], w, k, n) = (narrow (.boolean) (.int a) = .int a ∧ k ≤ 6 ∧ n ≤ 32 ∧ Q (.inl (some (.int a))) w) := iret_e rfl (dt_q dX1_isSameAs_0_D 24 rfl) rfl
theorem eX1_isSameAs_68 : WP (MX1_isSameAs g) Q (68, [l0, l1, l2, l3], st, w, k, n) = WP (MX1_isSameAs g) Q (69, [l0, l1, l2, l3], .int 0 :: st, w, k, n) := ic_0 rfl (dt_q dX1_isSameAs_0_D 25 rfl)
theorem eX1_isSameAs_69 : WP (MX1_isSameAs g) Q (69, [l0, l1, l2, l3], [.int a], w, k, n) = (narrow (.boolean) (.int a) = .int a ∧ k ≤ 6 ∧ n ≤ 32 ∧ Q (.inl (some (.int a))) w) := iret_e rfl (dt_q dX1_isSameAs_0_D 26 rfl) rfl
end
theorem vMX1_isSameAs {l : Launch} (hl : l.stackTraces = false) (G : GT) : vM l G (MX1_isSameAs (gg G)) := vM_k RX1 cX1_isSameAs rfl rfl all_n all_n all_n all_n all_n (fun h => absurd rfl h) (all_c (kc_78 hl wk_816) (all_c (kc_117 hl wk_440) (all_c (kc_123 hl wk_874) (all_c (kc_98 hl wk_144) (all_c (kc_93 hl (⟨"Rangecard", tm_1 (List.mem_of_getElem? (i := 118) rfl)⟩)) (all_c (kc_101 hl wk_189) (all_n))))))) all_n all_n (fun h => absurd rfl h) rfl all_n
theorem okX1_isSameAs {l : Launch} (hl : l.stackTraces = false) {G : GT} : ∀ (args : List Value) (w : Hw) (S : Ot → Hw → Prop), spOf (MX1_isSameAs (gg G)) args w S → CX l G yX1_isSameAs (.code yX1_isSameAs cX1_isSameAs 4 (some .boolean)) 8 6 32 args w S := CX_sp (M := MX1_isSameAs (gg G)) (y := yX1_isSameAs) hl (by decide) rfl (vMX1_isSameAs hl G) (fun h => by cases h) rfl
end
/-! 66.class16.lean.txt -/
section
abbrev dX1_likes_0_T : List (Nat × Instr × Nat) := [(0, .aload_n 0, 1), (1, .aload_n 0, 1), (2, .iload_n 1, 1), (3, .invokevirtual 98, 3), (6, .invokevirtual 179, 3), (9, .ireturn, 1)]
theorem dX1_likes_0_D : dtc cX1_likes dX1_likes_0_T = true := by decide +kernel
def MX1_likes (g : RO) : MT := ((RX1, cX1_likes, 2, 8, 2, 12, false, some .int), [], [], [], [], [], 0, [(98, 2, 2, 5, 7, (fun _ _ => 2), (fun _ _ => 12), yX1_rangeOf, spOf (MX1_rangeOf g)), (179, 2, 2, 5, 2, (fun _ _ => 0), (fun _ _ => 0), yX1_cardsLike, spOf (MX1_cardsLike g))], [], [], 0, [], [], g)
section
variable {g : RO} {Q : Ot → Hw → Prop} {st : List Value} {w : Hw} {k n p q : Nat} {a b : Int32} {x y : Int64} {u v : Value} {l0 l1 : Option Value}
theorem eX1_likes_0 : WP (MX1_likes g) Q (0, [some (.ref p), l1], st, w, k, n) = WP (MX1_likes g) Q (1, [some (.ref p), l1], .ref p :: st, w, k, n) := alnR_e rfl (dt_q dX1_likes_0_D 0 rfl) rfl
theorem eX1_likes_0N : WP (MX1_likes g) Q (0, [some .null, l1], st, w, k, n) = WP (MX1_likes g) Q (1, [some .null, l1], .null :: st, w, k, n) := alnN_e rfl (dt_q dX1_likes_0_D 0 rfl) rfl
theorem eX1_likes_1 : WP (MX1_likes g) Q (1, [some (.ref p), l1], st, w, k, n) = WP (MX1_likes g) Q (2, [some (.ref p), l1], .ref p :: st, w, k, n) := alnR_e rfl (dt_q dX1_likes_0_D 1 rfl) rfl
theorem eX1_likes_1N : WP (MX1_likes g) Q (1, [some .null, l1], st, w, k, n) = WP (MX1_likes g) Q (2, [some .null, l1], .null :: st, w, k, n) := alnN_e rfl (dt_q dX1_likes_0_D 1 rfl) rfl
theorem eX1_likes_2 : WP (MX1_likes g) Q (2, [l0, some (.int a)], st, w, k, n) = WP (MX1_likes g) Q (3, [l0, some (.int a)], .int a :: st, w, k, n) := iln_e rfl (dt_q dX1_likes_0_D 2 rfl) rfl
theorem eX1_likes_3 {z0 : Int32} : WP (MX1_likes g) Q (3, [l0, l1], .int z0 :: .ref p :: st, w, k, n) = (go (rd g w p) 5 (fun _ => True) ∧ wt st ≤ 8 ∧ k + 2 ≤ 2 ∧ n + 12 ≤ 12 ∧ WP (MX1_rangeOf g) (kx (fun v w' => WP (MX1_likes g) Q (6, [l0, l1], v.toList ++ st, w', k + 2, n + 12)) (fun E w' => Q (.inr E) w')) (0, [some (.ref p), some (.int z0), none], [], w, 0, 0)) := csV0 (M := (MX1_likes g)) (mc := (fun _ _ => 2)) (ms := (fun _ _ => 12)) (As := [.int z0]) (rest := st) (MX1_rangeOf g) rfl rfl rfl (dt_q dX1_likes_0_D 3 rfl) rfl rfl rfl rfl rfl rfl
theorem eX1_likes_6R {z0 : Nat} : WP (MX1_likes g) Q (6, [l0, l1], .ref z0 :: .ref p :: st, w, k, n) = (go (rd g w p) 5 (fun _ => True) ∧ wt st ≤ 8 ∧ k + 0 ≤ 2 ∧ n + 0 ≤ 12 ∧ WP (MX1_cardsLike g) (kx (fun v w' => WP (MX1_likes g) Q (9, [l0, l1], v.toList ++ st, w', k + 0, n + 0)) (fun E w' => Q (.inr E) w')) (0, [some (.ref p), some (.ref z0), none, none, none], [], w, 0, 0)) := csV0 (M := (MX1_likes g)) (mc := (fun _ _ => 0)) (ms := (fun _ _ => 0)) (As := [.ref z0]) (rest := st) (MX1_cardsLike g) rfl rfl rfl (dt_q dX1_likes_0_D 4 rfl) rfl rfl rfl rfl rfl rfl
theorem eX1_likes_6N  : WP (MX1_likes g) Q (6, [l0, l1], .null :: .ref p :: st, w, k, n) = (go (rd g w p) 5 (fun _ => True) ∧ wt st ≤ 8 ∧ k + 0 ≤ 2 ∧ n + 0 ≤ 12 ∧ WP (MX1_cardsLike g) (kx (fun v w' => WP (MX1_likes g) Q (9, [l0, l1], v.toList ++ st, w', k + 0, n + 0)) (fun E w' => Q (.inr E) w')) (0, [some (.ref p), some .null, none, none, none], [], w, 0, 0)) := csV0 (M := (MX1_likes g)) (mc := (fun _ _ => 0)) (ms := (fun _ _ => 0)) (As := [.null]) (rest := st) (MX1_cardsLike g) rfl rfl rfl (dt_q dX1_likes_0_D 4 rfl) rfl rfl rfl rfl rfl rfl
theorem eX1_likes_9 : WP (MX1_likes g) Q (9, [l0, l1], [.int a], w, k, n) = (k ≤ 2 ∧ n ≤ 12 ∧ Q (.inl (some (.int a))) w) := iretI_e rfl (dt_q dX1_likes_0_D 5 rfl) rfl
end
theorem vMX1_likes {l : Launch} (hl : l.stackTraces = false) (G : GT) : vM l G (MX1_likes (gg G)) := vM_k RX1 cX1_likes rfl rfl all_n all_n all_n all_n all_n (fun h => absurd rfl h) (all_c (kc_123 hl wk_874) (all_c (kc_110 hl wk_297) (all_n))) all_n all_n (fun h => absurd rfl h) rfl all_n
theorem okX1_likes {l : Launch} (hl : l.stackTraces = false) {G : GT} : ∀ (args : List Value) (w : Hw) (S : Ot → Hw → Prop), spOf (MX1_likes (gg G)) args w S → CX l G yX1_likes (.code yX1_likes cX1_likes 2 (some .int)) 8 2 12 args w S := CX_sp (M := MX1_likes (gg G)) (y := yX1_likes) hl (by decide) rfl (vMX1_likes hl G) (fun h => by cases h) rfl
abbrev dX1_lay_0_T : List (Nat × Instr × Nat) := [(0, .aload_n 0, 1), (1, .iload_n 1, 1), (2, .invokevirtual 98, 3), (5, .astore_n 2, 1), (6, .aload_n 0, 1), (7, .getfield 22, 3), (10, .ifCond .lt 15, 3), (13, .aload_n 0, 1), (14, .getfield 22, 3), (17, .aload_n 0, 1), (18, .getfield 19, 3), (21, .arraylength, 1), (22, .if_icmp .lt 8, 3), (25, .aload_n 0, 1), (26, .invokevirtual 182, 3), (29, .ireturn, 1), (30, .aload_n 0, 1), (31, .getfield 19, 3), (34, .aload_n 0, 1), (35, .getfield 22, 3), (38, .aload_n 2, 1), (39, .aastore, 1), (40, .aload_n 0, 1), (41, .dup, 1), (42, .getfield 22, 3), (45, .iconst 1, 1), (46, .iadd, 1), (47, .putfield 22, 3), (50, .aload_n 0, 1), (51, .getfield 22, 3), (54, .ireturn, 1)]
theorem dX1_lay_0_D : dtc cX1_lay dX1_lay_0_T = true := by decide +kernel
def MX1_lay (g : RO) : MT := ((RX1, cX1_lay, 3, 8, 2, 12, false, some .int), [(22, 5, 3), (19, 5, 2)], [], [], [], [], 0, [(98, 2, 2, 5, 7, (fun _ _ => 2), (fun _ _ => 12), yX1_rangeOf, spOf (MX1_rangeOf g)), (182, 2, 1, 5, 1, (fun _ _ => 0), (fun _ _ => 0), yX1_refuse, spOf (MX1_refuse g))], [], [], 0, [], [], g)
section
variable {g : RO} {Q : Ot → Hw → Prop} {st : List Value} {w : Hw} {k n p q : Nat} {a b : Int32} {x y : Int64} {u v : Value} {l0 l1 l2 : Option Value}
theorem eX1_lay_0 : WP (MX1_lay g) Q (0, [some (.ref p), l1, l2], st, w, k, n) = WP (MX1_lay g) Q (1, [some (.ref p), l1, l2], .ref p :: st, w, k, n) := alnR_e rfl (dt_q dX1_lay_0_D 0 rfl) rfl
theorem eX1_lay_0N : WP (MX1_lay g) Q (0, [some .null, l1, l2], st, w, k, n) = WP (MX1_lay g) Q (1, [some .null, l1, l2], .null :: st, w, k, n) := alnN_e rfl (dt_q dX1_lay_0_D 0 rfl) rfl
theorem eX1_lay_1 : WP (MX1_lay g) Q (1, [l0, some (.int a), l2], st, w, k, n) = WP (MX1_lay g) Q (2, [l0, some (.int a), l2], .int a :: st, w, k, n) := iln_e rfl (dt_q dX1_lay_0_D 1 rfl) rfl
theorem eX1_lay_2 {z0 : Int32} : WP (MX1_lay g) Q (2, [l0, l1, l2], .int z0 :: .ref p :: st, w, k, n) = (go (rd g w p) 5 (fun _ => True) ∧ wt st ≤ 8 ∧ k + 2 ≤ 2 ∧ n + 12 ≤ 12 ∧ WP (MX1_rangeOf g) (kx (fun v w' => WP (MX1_lay g) Q (5, [l0, l1, l2], v.toList ++ st, w', k + 2, n + 12)) (fun E w' => Q (.inr E) w')) (0, [some (.ref p), some (.int z0), none], [], w, 0, 0)) := csV0 (M := (MX1_lay g)) (mc := (fun _ _ => 2)) (ms := (fun _ _ => 12)) (As := [.int z0]) (rest := st) (MX1_rangeOf g) rfl rfl rfl (dt_q dX1_lay_0_D 2 rfl) rfl rfl rfl rfl rfl rfl
theorem eX1_lay_5 : WP (MX1_lay g) Q (5, [l0, l1, l2], .ref p :: st, w, k, n) = WP (MX1_lay g) Q (6, [l0, nl l1, some (.ref p)], st, w, k, n) := asnR_e rfl (dt_q dX1_lay_0_D 3 rfl) rfl rfl
theorem eX1_lay_5N : WP (MX1_lay g) Q (5, [l0, l1, l2], .null :: st, w, k, n) = WP (MX1_lay g) Q (6, [l0, nl l1, some (.null)], st, w, k, n) := asnN_e rfl (dt_q dX1_lay_0_D 3 rfl) rfl rfl
theorem eX1_lay_6 : WP (MX1_lay g) Q (6, [some (.ref p), l1, l2], st, w, k, n) = WP (MX1_lay g) Q (7, [some (.ref p), l1, l2], .ref p :: st, w, k, n) := alnR_e rfl (dt_q dX1_lay_0_D 4 rfl) rfl
theorem eX1_lay_6N : WP (MX1_lay g) Q (6, [some .null, l1, l2], st, w, k, n) = WP (MX1_lay g) Q (7, [some .null, l1, l2], .null :: st, w, k, n) := alnN_e rfl (dt_q dX1_lay_0_D 4 rfl) rfl
theorem eX1_lay_7 : WP (MX1_lay g) Q (7, [l0, l1, l2], .ref p :: st, w, k, n) = go (rd g w p) 5 fun fs => ∃ v, fs[3]? = some v ∧ WP (MX1_lay g) Q (10, [l0, l1, l2], v :: st, w, k, n) := get_e rfl (dt_q dX1_lay_0_D 5 rfl) rfl
theorem eX1_lay_10 : WP (MX1_lay g) Q (10, [l0, l1, l2], .int a :: st, w, k, n) = if a < 0 then WP (MX1_lay g) Q (25, [l0, l1, l2], st, w, k, n) else WP (MX1_lay g) Q (13, [l0, l1, l2], st, w, k, n) := ifc_e (a < 0) rfl (dt_q dX1_lay_0_D 6 rfl) rfl (by decide)
theorem eX1_lay_13 : WP (MX1_lay g) Q (13, [some (.ref p), l1, l2], st, w, k, n) = WP (MX1_lay g) Q (14, [some (.ref p), l1, l2], .ref p :: st, w, k, n) := alnR_e rfl (dt_q dX1_lay_0_D 7 rfl) rfl
theorem eX1_lay_13N : WP (MX1_lay g) Q (13, [some .null, l1, l2], st, w, k, n) = WP (MX1_lay g) Q (14, [some .null, l1, l2], .null :: st, w, k, n) := alnN_e rfl (dt_q dX1_lay_0_D 7 rfl) rfl
theorem eX1_lay_14 : WP (MX1_lay g) Q (14, [l0, l1, l2], .ref p :: st, w, k, n) = go (rd g w p) 5 fun fs => ∃ v, fs[3]? = some v ∧ WP (MX1_lay g) Q (17, [l0, l1, l2], v :: st, w, k, n) := get_e rfl (dt_q dX1_lay_0_D 8 rfl) rfl
theorem eX1_lay_17 : WP (MX1_lay g) Q (17, [some (.ref p), l1, l2], st, w, k, n) = WP (MX1_lay g) Q (18, [some (.ref p), l1, l2], .ref p :: st, w, k, n) := alnR_e rfl (dt_q dX1_lay_0_D 9 rfl) rfl
theorem eX1_lay_17N : WP (MX1_lay g) Q (17, [some .null, l1, l2], st, w, k, n) = WP (MX1_lay g) Q (18, [some .null, l1, l2], .null :: st, w, k, n) := alnN_e rfl (dt_q dX1_lay_0_D 9 rfl) rfl
theorem eX1_lay_18 : WP (MX1_lay g) Q (18, [l0, l1, l2], .ref p :: st, w, k, n) = go (rd g w p) 5 fun fs => ∃ v, fs[2]? = some v ∧ WP (MX1_lay g) Q (21, [l0, l1, l2], v :: st, w, k, n) := get_e rfl (dt_q dX1_lay_0_D 10 rfl) rfl
theorem eX1_lay_21 : WP (MX1_lay g) Q (21, [l0, l1, l2], .ref p :: st, w, k, n) = ∃ t z, rd g w p = some (.inl (t, z)) ∧ t < 6 ∧ WP (MX1_lay g) Q (22, [l0, l1, l2], .int (Int32.ofNat z.1) :: st, w, k, n) := Eq.trans (WP_at (M := (MX1_lay g)) rfl (dt_q dX1_lay_0_D 11 rfl) (Or.inr rfl)) rfl
theorem eX1_lay_22 : WP (MX1_lay g) Q (22, [l0, l1, l2], .int b :: .int a :: st, w, k, n) = if a < b then WP (MX1_lay g) Q (30, [l0, l1, l2], st, w, k, n) else WP (MX1_lay g) Q (25, [l0, l1, l2], st, w, k, n) := icm_e (a < b) rfl (dt_q dX1_lay_0_D 12 rfl) rfl (by decide)
theorem eX1_lay_25 : WP (MX1_lay g) Q (25, [some (.ref p), l1, l2], st, w, k, n) = WP (MX1_lay g) Q (26, [some (.ref p), l1, l2], .ref p :: st, w, k, n) := alnR_e rfl (dt_q dX1_lay_0_D 13 rfl) rfl
theorem eX1_lay_25N : WP (MX1_lay g) Q (25, [some .null, l1, l2], st, w, k, n) = WP (MX1_lay g) Q (26, [some .null, l1, l2], .null :: st, w, k, n) := alnN_e rfl (dt_q dX1_lay_0_D 13 rfl) rfl
theorem eX1_lay_26  : WP (MX1_lay g) Q (26, [l0, l1, l2], .ref p :: st, w, k, n) = (go (rd g w p) 5 (fun _ => True) ∧ wt st ≤ 8 ∧ k + 0 ≤ 2 ∧ n + 0 ≤ 12 ∧ WP (MX1_refuse g) (kx (fun v w' => WP (MX1_lay g) Q (29, [l0, l1, l2], v.toList ++ st, w', k + 0, n + 0)) (fun E w' => Q (.inr E) w')) (0, [some (.ref p)], [], w, 0, 0)) := csV0 (M := (MX1_lay g)) (mc := (fun _ _ => 0)) (ms := (fun _ _ => 0)) (As := []) (rest := st) (MX1_refuse g) rfl rfl rfl (dt_q dX1_lay_0_D 14 rfl) rfl rfl rfl rfl rfl rfl
theorem eX1_lay_29 : WP (MX1_lay g) Q (29, [l0, l1, l2], [.int a], w, k, n) = (k ≤ 2 ∧ n ≤ 12 ∧ Q (.inl (some (.int a))) w) := iretI_e rfl (dt_q dX1_lay_0_D 15 rfl) rfl
theorem eX1_lay_30 : WP (MX1_lay g) Q (30, [some (.ref p), l1, l2], st, w, k, n) = WP (MX1_lay g) Q (31, [some (.ref p), l1, l2], .ref p :: st, w, k, n) := alnR_e rfl (dt_q dX1_lay_0_D 16 rfl) rfl
theorem eX1_lay_30N : WP (MX1_lay g) Q (30, [some .null, l1, l2], st, w, k, n) = WP (MX1_lay g) Q (31, [some .null, l1, l2], .null :: st, w, k, n) := alnN_e rfl (dt_q dX1_lay_0_D 16 rfl) rfl
theorem eX1_lay_31 : WP (MX1_lay g) Q (31, [l0, l1, l2], .ref p :: st, w, k, n) = go (rd g w p) 5 fun fs => ∃ v, fs[2]? = some v ∧ WP (MX1_lay g) Q (34, [l0, l1, l2], v :: st, w, k, n) := get_e rfl (dt_q dX1_lay_0_D 17 rfl) rfl
theorem eX1_lay_34 : WP (MX1_lay g) Q (34, [some (.ref p), l1, l2], st, w, k, n) = WP (MX1_lay g) Q (35, [some (.ref p), l1, l2], .ref p :: st, w, k, n) := alnR_e rfl (dt_q dX1_lay_0_D 18 rfl) rfl
theorem eX1_lay_34N : WP (MX1_lay g) Q (34, [some .null, l1, l2], st, w, k, n) = WP (MX1_lay g) Q (35, [some .null, l1, l2], .null :: st, w, k, n) := alnN_e rfl (dt_q dX1_lay_0_D 18 rfl) rfl
theorem eX1_lay_35 : WP (MX1_lay g) Q (35, [l0, l1, l2], .ref p :: st, w, k, n) = go (rd g w p) 5 fun fs => ∃ v, fs[3]? = some v ∧ WP (MX1_lay g) Q (38, [l0, l1, l2], v :: st, w, k, n) := get_e rfl (dt_q dX1_lay_0_D 19 rfl) rfl
theorem eX1_lay_38 : WP (MX1_lay g) Q (38, [l0, l1, some (.ref p)], st, w, k, n) = WP (MX1_lay g) Q (39, [l0, l1, some (.ref p)], .ref p :: st, w, k, n) := alnR_e rfl (dt_q dX1_lay_0_D 20 rfl) rfl
theorem eX1_lay_38N : WP (MX1_lay g) Q (38, [l0, l1, some .null], st, w, k, n) = WP (MX1_lay g) Q (39, [l0, l1, some .null], .null :: st, w, k, n) := alnN_e rfl (dt_q dX1_lay_0_D 20 rfl) rfl
theorem eX1_lay_39N : WP (MX1_lay g) Q (39, [l0, l1, l2], .null :: .int a :: .ref p :: st, w, k, n) = gq (w p) fun t N f => vp_in a N ∧ (t = 4 ∨ t = 5) ∧ WP (MX1_lay g) Q (40, [l0, l1, l2], st, upw w p (.inl (t, N, .inr (.inr (.inr (.inr (va_up f a.toNatClampNeg none)))))), k, n) := aastN_e rfl (dt_q dX1_lay_0_D 21 rfl)
theorem eX1_lay_39R : WP (MX1_lay g) Q (39, [l0, l1, l2], .ref q :: .int a :: .ref p :: st, w, k, n) = gq (w p) fun t N f => vp_in a N ∧ ((t = 4 ∧ go (w q) 4 fun _ => True) ∨ (t = 5 ∧ gl (w q) 0 fun _ _ => True)) ∧ WP (MX1_lay g) Q (40, [l0, l1, l2], st, upw w p (.inl (t, N, .inr (.inr (.inr (.inr (va_up f a.toNatClampNeg (some q))))))), k, n) := aastR_e rfl (dt_q dX1_lay_0_D 21 rfl)
theorem eX1_lay_40 : WP (MX1_lay g) Q (40, [some (.ref p), l1, l2], st, w, k, n) = WP (MX1_lay g) Q (41, [some (.ref p), l1, l2], .ref p :: st, w, k, n) := alnR_e rfl (dt_q dX1_lay_0_D 22 rfl) rfl
theorem eX1_lay_40N : WP (MX1_lay g) Q (40, [some .null, l1, l2], st, w, k, n) = WP (MX1_lay g) Q (41, [some .null, l1, l2], .null :: st, w, k, n) := alnN_e rfl (dt_q dX1_lay_0_D 22 rfl) rfl
theorem eX1_lay_41 : WP (MX1_lay g) Q (41, [l0, l1, l2], .int a :: st, w, k, n) = WP (MX1_lay g) Q (42, [l0, l1, l2], .int a :: .int a :: st, w, k, n) := dupI_e rfl (dt_q dX1_lay_0_D 23 rfl)
theorem eX1_lay_41R : WP (MX1_lay g) Q (41, [l0, l1, l2], .ref p :: st, w, k, n) = WP (MX1_lay g) Q (42, [l0, l1, l2], .ref p :: .ref p :: st, w, k, n) := dupR_e rfl (dt_q dX1_lay_0_D 23 rfl)
theorem eX1_lay_42 : WP (MX1_lay g) Q (42, [l0, l1, l2], .ref p :: st, w, k, n) = go (rd g w p) 5 fun fs => ∃ v, fs[3]? = some v ∧ WP (MX1_lay g) Q (45, [l0, l1, l2], v :: st, w, k, n) := get_e rfl (dt_q dX1_lay_0_D 24 rfl) rfl
theorem eX1_lay_45 : WP (MX1_lay g) Q (45, [l0, l1, l2], st, w, k, n) = WP (MX1_lay g) Q (46, [l0, l1, l2], .int 1 :: st, w, k, n) := ic_1 rfl (dt_q dX1_lay_0_D 25 rfl)
theorem eX1_lay_46 : WP (MX1_lay g) Q (46, [l0, l1, l2], .int b :: .int a :: st, w, k, n) = WP (MX1_lay g) Q (47, [l0, l1, l2], .int (a + b) :: st, w, k, n) := iadd_e rfl (dt_q dX1_lay_0_D 26 rfl)
theorem eX1_lay_47 : WP (MX1_lay g) Q (47, [l0, l1, l2], v :: .ref p :: st, w, k, n) = go (w p) 5 fun fs => 3 < fs.length ∧ (narrow (.int) v = v ∧ fits (.int) v = true) ∧ WP (MX1_lay g) Q (50, [l0, l1, l2], st, upw w p (.inr (5, fs.set 3 v)), k, n) := put_e (q := (RX1, TX1, 7)) rfl (dt_q dX1_lay_0_D 27 rfl) rfl rfl (tyX1_ok 3 (by decide)) (Or.inl rfl)
theorem eX1_lay_50 : WP (MX1_lay g) Q (50, [some (.ref p), l1, l2], st, w, k, n) = WP (MX1_lay g) Q (51, [some (.ref p), l1, l2], .ref p :: st, w, k, n) := alnR_e rfl (dt_q dX1_lay_0_D 28 rfl) rfl
theorem eX1_lay_50N : WP (MX1_lay g) Q (50, [some .null, l1, l2], st, w, k, n) = WP (MX1_lay g) Q (51, [some .null, l1, l2], .null :: st, w, k, n) := alnN_e rfl (dt_q dX1_lay_0_D 28 rfl) rfl
theorem eX1_lay_51 : WP (MX1_lay g) Q (51, [l0, l1, l2], .ref p :: st, w, k, n) = go (rd g w p) 5 fun fs => ∃ v, fs[3]? = some v ∧ WP (MX1_lay g) Q (54, [l0, l1, l2], v :: st, w, k, n) := get_e rfl (dt_q dX1_lay_0_D 29 rfl) rfl
theorem eX1_lay_54 : WP (MX1_lay g) Q (54, [l0, l1, l2], [.int a], w, k, n) = (k ≤ 2 ∧ n ≤ 12 ∧ Q (.inl (some (.int a))) w) := iretI_e rfl (dt_q dX1_lay_0_D 30 rfl) rfl
end
theorem vMX1_lay {l : Launch} (hl : l.stackTraces = false) (G : GT) : vM l G (MX1_lay (gg G)) := vM_k RX1 cX1_lay rfl rfl (all_c (vF_RX1_22) (all_c (vF_RX1_19) (all_n))) all_n all_n all_n all_n (fun h => absurd rfl h) (all_c (kc_123 hl wk_874) (all_c (kc_79 hl wk_824) (all_n))) all_n all_n (fun h => absurd rfl h) rfl all_n
theorem okX1_lay {l : Launch} (hl : l.stackTraces = false) {G : GT} : ∀ (args : List Value) (w : Hw) (S : Ot → Hw → Prop), spOf (MX1_lay (gg G)) args w S → CX l G yX1_lay (.code yX1_lay cX1_lay 3 (some .int)) 8 2 12 args w S := CX_sp (M := MX1_lay (gg G)) (y := yX1_lay) hl (by decide) rfl (vMX1_lay hl G) (fun h => by cases h) rfl
abbrev dX1_seek_0_T : List (Nat × Instr × Nat) := [(0, .aload_n 0, 1), (1, .iload_n 1, 1), (2, .invokevirtual 98, 3), (5, .astore_n 3, 1), (6, .iload_n 2, 1), (7, .ifCond .eq 11, 3), (10, .aload_n 0, 1), (11, .aload_n 3, 1), (12, .invokevirtual 186, 3), (15, .goto 8, 3), (18, .aload_n 0, 1), (19, .aload_n 3, 1), (20, .invokevirtual 189, 3), (23, .ireturn, 1)]
theorem dX1_seek_0_D : dtc cX1_seek dX1_seek_0_T = true := by decide +kernel
def MX1_seek (g : RO) : MT := ((RX1, cX1_seek, 4, 8, 2, 12, false, some .int), [], [], [], [], [], 0, [(98, 2, 2, 5, 7, (fun _ _ => 2), (fun _ _ => 12), yX1_rangeOf, spOf (MX1_rangeOf g)), (186, 2, 2, 5, 2, (fun _ _ => 0), (fun _ _ => 0), yX1_lastPlaceOf, spOf (MX1_lastPlaceOf g)), (189, 2, 2, 5, 2, (fun _ _ => 0), (fun _ _ => 0), yX1_firstPlaceOf, spOf (MX1_firstPlaceOf g))], [], [], 0, [], [], g)
section
variable {g : RO} {Q : Ot → Hw → Prop} {st : List Value} {w : Hw} {k n p q : Nat} {a b : Int32} {x y : Int64} {u v : Value} {l0 l1 l2 l3 : Option Value}
theorem eX1_seek_0 : WP (MX1_seek g) Q (0, [some (.ref p), l1, l2, l3], st, w, k, n) = WP (MX1_seek g) Q (1, [some (.ref p), l1, l2, l3], .ref p :: st, w, k, n) := alnR_e rfl (dt_q dX1_seek_0_D 0 rfl) rfl
theorem eX1_seek_0N : WP (MX1_seek g) Q (0, [some .null, l1, l2, l3], st, w, k, n) = WP (MX1_seek g) Q (1, [some .null, l1, l2, l3], .null :: st, w, k, n) := alnN_e rfl (dt_q dX1_seek_0_D 0 rfl) rfl
theorem eX1_seek_1 : WP (MX1_seek g) Q (1, [l0, some (.int a), l2, l3], st, w, k, n) = WP (MX1_seek g) Q (2, [l0, some (.int a), l2, l3], .int a :: st, w, k, n) := iln_e rfl (dt_q dX1_seek_0_D 1 rfl) rfl
theorem eX1_seek_2 {z0 : Int32} : WP (MX1_seek g) Q (2, [l0, l1, l2, l3], .int z0 :: .ref p :: st, w, k, n) = (go (rd g w p) 5 (fun _ => True) ∧ wt st ≤ 8 ∧ k + 2 ≤ 2 ∧ n + 12 ≤ 12 ∧ WP (MX1_rangeOf g) (kx (fun v w' => WP (MX1_seek g) Q (5, [l0, l1, l2, l3], v.toList ++ st, w', k + 2, n + 12)) (fun E w' => Q (.inr E) w')) (0, [some (.ref p), some (.int z0), none], [], w, 0, 0)) := csV0 (M := (MX1_seek g)) (mc := (fun _ _ => 2)) (ms := (fun _ _ => 12)) (As := [.int z0]) (rest := st) (MX1_rangeOf g) rfl rfl rfl (dt_q dX1_seek_0_D 2 rfl) rfl rfl rfl rfl rfl rfl
theorem eX1_seek_5 : WP (MX1_seek g) Q (5, [l0, l1, l2, l3], .ref p :: st, w, k, n) = WP (MX1_seek g) Q (6, [l0, l1, nl l2, some (.ref p)], st, w, k, n) := asnR_e rfl (dt_q dX1_seek_0_D 3 rfl) rfl rfl
theorem eX1_seek_5N : WP (MX1_seek g) Q (5, [l0, l1, l2, l3], .null :: st, w, k, n) = WP (MX1_seek g) Q (6, [l0, l1, nl l2, some (.null)], st, w, k, n) := asnN_e rfl (dt_q dX1_seek_0_D 3 rfl) rfl rfl
theorem eX1_seek_6 : WP (MX1_seek g) Q (6, [l0, l1, some (.int a), l3], st, w, k, n) = WP (MX1_seek g) Q (7, [l0, l1, some (.int a), l3], .int a :: st, w, k, n) := iln_e rfl (dt_q dX1_seek_0_D 4 rfl) rfl
theorem eX1_seek_7 : WP (MX1_seek g) Q (7, [l0, l1, l2, l3], .int a :: st, w, k, n) = if a = 0 then WP (MX1_seek g) Q (18, [l0, l1, l2, l3], st, w, k, n) else WP (MX1_seek g) Q (10, [l0, l1, l2, l3], st, w, k, n) := ifc_e (a = 0) rfl (dt_q dX1_seek_0_D 5 rfl) rfl (by decide)
theorem eX1_seek_10 : WP (MX1_seek g) Q (10, [some (.ref p), l1, l2, l3], st, w, k, n) = WP (MX1_seek g) Q (11, [some (.ref p), l1, l2, l3], .ref p :: st, w, k, n) := alnR_e rfl (dt_q dX1_seek_0_D 6 rfl) rfl
theorem eX1_seek_10N : WP (MX1_seek g) Q (10, [some .null, l1, l2, l3], st, w, k, n) = WP (MX1_seek g) Q (11, [some .null, l1, l2, l3], .null :: st, w, k, n) := alnN_e rfl (dt_q dX1_seek_0_D 6 rfl) rfl
theorem eX1_seek_11 : WP (MX1_seek g) Q (11, [l0, l1, l2, some (.ref p)], st, w, k, n) = WP (MX1_seek g) Q (12, [l0, l1, l2, some (.ref p)], .ref p :: st, w, k, n) := alnR_e rfl (dt_q dX1_seek_0_D 7 rfl) rfl
theorem eX1_seek_11N : WP (MX1_seek g) Q (11, [l0, l1, l2, some .null], st, w, k, n) = WP (MX1_seek g) Q (12, [l0, l1, l2, some .null], .null :: st, w, k, n) := alnN_e rfl (dt_q dX1_seek_0_D 7 rfl) rfl
theorem eX1_seek_12R {z0 : Nat} : WP (MX1_seek g) Q (12, [l0, l1, l2, l3], .ref z0 :: .ref p :: st, w, k, n) = (go (rd g w p) 5 (fun _ => True) ∧ wt st ≤ 8 ∧ k + 0 ≤ 2 ∧ n + 0 ≤ 12 ∧ WP (MX1_lastPlaceOf g) (kx (fun v w' => WP (MX1_seek g) Q (15, [l0, l1, l2, l3], v.toList ++ st, w', k + 0, n + 0)) (fun E w' => Q (.inr E) w')) (0, [some (.ref p), some (.ref z0), none], [], w, 0, 0)) := csV0 (M := (MX1_seek g)) (mc := (fun _ _ => 0)) (ms := (fun _ _ => 0)) (As := [.ref z0]) (rest := st) (MX1_lastPlaceOf g) rfl rfl rfl (dt_q dX1_seek_0_D 8 rfl) rfl rfl rfl rfl rfl rfl
theorem eX1_seek_12N  : WP (MX1_seek g) Q (12, [l0, l1, l2, l3], .null :: .ref p :: st, w, k, n) = (go (rd g w p) 5 (fun _ => True) ∧ wt st ≤ 8 ∧ k + 0 ≤ 2 ∧ n + 0 ≤ 12 ∧ WP (MX1_lastPlaceOf g) (kx (fun v w' => WP (MX1_seek g) Q (15, [l0, l1, l2, l3], v.toList ++ st, w', k + 0, n + 0)) (fun E w' => Q (.inr E) w')) (0, [some (.ref p), some .null, none], [], w, 0, 0)) := csV0 (M := (MX1_seek g)) (mc := (fun _ _ => 0)) (ms := (fun _ _ => 0)) (As := [.null]) (rest := st) (MX1_lastPlaceOf g) rfl rfl rfl (dt_q dX1_seek_0_D 8 rfl) rfl rfl rfl rfl rfl rfl
theorem eX1_seek_15 : WP (MX1_seek g) Q (15, [l0, l1, l2, l3], st, w, k, n) = WP (MX1_seek g) Q (23, [l0, l1, l2, l3], st, w, k, n) := goto_e rfl (dt_q dX1_seek_0_D 9 rfl) (by decide)
theorem eX1_seek_18 : WP (MX1_seek g) Q (18, [some (.ref p), l1, l2, l3], st, w, k, n) = WP (MX1_seek g) Q (19, [some (.ref p), l1, l2, l3], .ref p :: st, w, k, n) := alnR_e rfl (dt_q dX1_seek_0_D 10 rfl) rfl
theorem eX1_seek_18N : WP (MX1_seek g) Q (18, [some .null, l1, l2, l3], st, w, k, n) = WP (MX1_seek g) Q (19, [some .null, l1, l2, l3], .null :: st, w, k, n) := alnN_e rfl (dt_q dX1_seek_0_D 10 rfl) rfl
theorem eX1_seek_19 : WP (MX1_seek g) Q (19, [l0, l1, l2, some (.ref p)], st, w, k, n) = WP (MX1_seek g) Q (20, [l0, l1, l2, some (.ref p)], .ref p :: st, w, k, n) := alnR_e rfl (dt_q dX1_seek_0_D 11 rfl) rfl
theorem eX1_seek_19N : WP (MX1_seek g) Q (19, [l0, l1, l2, some .null], st, w, k, n) = WP (MX1_seek g) Q (20, [l0, l1, l2, some .null], .null :: st, w, k, n) := alnN_e rfl (dt_q dX1_seek_0_D 11 rfl) rfl
theorem eX1_seek_20R {z0 : Nat} : WP (MX1_seek g) Q (20, [l0, l1, l2, l3], .ref z0 :: .ref p :: st, w, k, n) = (go (rd g w p) 5 (fun _ => True) ∧ wt st ≤ 8 ∧ k + 0 ≤ 2 ∧ n + 0 ≤ 12 ∧ WP (MX1_firstPlaceOf g) (kx (fun v w' => WP (MX1_seek g) Q (23, [l0, l1, l2, l3], v.toList ++ st, w', k + 0, n + 0)) (fun E w' => Q (.inr E) w')) (0, [some (.ref p), some (.ref z0), none], [], w, 0, 0)) := csV0 (M := (MX1_seek g)) (mc := (fun _ _ => 0)) (ms := (fun _ _ => 0)) (As := [.ref z0]) (rest := st) (MX1_firstPlaceOf g) rfl rfl rfl (dt_q dX1_seek_0_D 12 rfl) rfl rfl rfl rfl rfl rfl
theorem eX1_seek_20N  : WP (MX1_seek g) Q (20, [l0, l1, l2, l3], .null :: .ref p :: st, w, k, n) = (go (rd g w p) 5 (fun _ => True) ∧ wt st ≤ 8 ∧ k + 0 ≤ 2 ∧ n + 0 ≤ 12 ∧ WP (MX1_firstPlaceOf g) (kx (fun v w' => WP (MX1_seek g) Q (23, [l0, l1, l2, l3], v.toList ++ st, w', k + 0, n + 0)) (fun E w' => Q (.inr E) w')) (0, [some (.ref p), some .null, none], [], w, 0, 0)) := csV0 (M := (MX1_seek g)) (mc := (fun _ _ => 0)) (ms := (fun _ _ => 0)) (As := [.null]) (rest := st) (MX1_firstPlaceOf g) rfl rfl rfl (dt_q dX1_seek_0_D 12 rfl) rfl rfl rfl rfl rfl rfl
theorem eX1_seek_23 : WP (MX1_seek g) Q (23, [l0, l1, l2, l3], [.int a], w, k, n) = (k ≤ 2 ∧ n ≤ 12 ∧ Q (.inl (some (.int a))) w) := iretI_e rfl (dt_q dX1_seek_0_D 13 rfl) rfl
end
theorem vMX1_seek {l : Launch} (hl : l.stackTraces = false) (G : GT) : vM l G (MX1_seek (gg G)) := vM_k RX1 cX1_seek rfl rfl all_n all_n all_n all_n all_n (fun h => absurd rfl h) (all_c (kc_123 hl wk_874) (all_c (kc_111 hl wk_301) (all_c (kc_95 hl wk_240) (all_n)))) all_n all_n (fun h => absurd rfl h) rfl all_n
theorem okX1_seek {l : Launch} (hl : l.stackTraces = false) {G : GT} : ∀ (args : List Value) (w : Hw) (S : Ot → Hw → Prop), spOf (MX1_seek (gg G)) args w S → CX l G yX1_seek (.code yX1_seek cX1_seek 4 (some .int)) 8 2 12 args w S := CX_sp (M := MX1_seek (gg G)) (y := yX1_seek) hl (by decide) rfl (vMX1_seek hl G) (fun h => by cases h) rfl
abbrev dX1_howOften_0_T : List (Nat × Instr × Nat) := [(0, .aload_n 0, 1), (1, .aload_n 0, 1), (2, .iload_n 1, 1), (3, .invokevirtual 98, 3), (6, .invokevirtual 192, 3), (9, .ireturn, 1)]
theorem dX1_howOften_0_D : dtc cX1_howOften dX1_howOften_0_T = true := by decide +kernel
def MX1_howOften (g : RO) : MT := ((RX1, cX1_howOften, 2, 8, 2, 12, false, some .int), [], [], [], [], [], 0, [(98, 2, 2, 5, 7, (fun _ _ => 2), (fun _ _ => 12), yX1_rangeOf, spOf (MX1_rangeOf g)), (192, 2, 2, 5, 2, (fun _ _ => 0), (fun _ _ => 0), yX1_timesLaid, spOf (MX1_timesLaid g))], [], [], 0, [], [], g)
section
variable {g : RO} {Q : Ot → Hw → Prop} {st : List Value} {w : Hw} {k n p q : Nat} {a b : Int32} {x y : Int64} {u v : Value} {l0 l1 : Option Value}
theorem eX1_howOften_0 : WP (MX1_howOften g) Q (0, [some (.ref p), l1], st, w, k, n) = WP (MX1_howOften g) Q (1, [some (.ref p), l1], .ref p :: st, w, k, n) := alnR_e rfl (dt_q dX1_howOften_0_D 0 rfl) rfl
theorem eX1_howOften_0N : WP (MX1_howOften g) Q (0, [some .null, l1], st, w, k, n) = WP (MX1_howOften g) Q (1, [some .null, l1], .null :: st, w, k, n) := alnN_e rfl (dt_q dX1_howOften_0_D 0 rfl) rfl
theorem eX1_howOften_1 : WP (MX1_howOften g) Q (1, [some (.ref p), l1], st, w, k, n) = WP (MX1_howOften g) Q (2, [some (.ref p), l1], .ref p :: st, w, k, n) := alnR_e rfl (dt_q dX1_howOften_0_D 1 rfl) rfl
theorem eX1_howOften_1N : WP (MX1_howOften g) Q (1, [some .null, l1], st, w, k, n) = WP (MX1_howOften g) Q (2, [some .null, l1], .null :: st, w, k, n) := alnN_e rfl (dt_q dX1_howOften_0_D 1 rfl) rfl
theorem eX1_howOften_2 : WP (MX1_howOften g) Q (2, [l0, some (.int a)], st, w, k, n) = WP (MX1_howOften g) Q (3, [l0, some (.int a)], .int a :: st, w, k, n) := iln_e rfl (dt_q dX1_howOften_0_D 2 rfl) rfl
theorem eX1_howOften_3 {z0 : Int32} : WP (MX1_howOften g) Q (3, [l0, l1], .int z0 :: .ref p :: st, w, k, n) = (go (rd g w p) 5 (fun _ => True) ∧ wt st ≤ 8 ∧ k + 2 ≤ 2 ∧ n + 12 ≤ 12 ∧ WP (MX1_rangeOf g) (kx (fun v w' => WP (MX1_howOften g) Q (6, [l0, l1], v.toList ++ st, w', k + 2, n + 12)) (fun E w' => Q (.inr E) w')) (0, [some (.ref p), some (.int z0), none], [], w, 0, 0)) := csV0 (M := (MX1_howOften g)) (mc := (fun _ _ => 2)) (ms := (fun _ _ => 12)) (As := [.int z0]) (rest := st) (MX1_rangeOf g) rfl rfl rfl (dt_q dX1_howOften_0_D 3 rfl) rfl rfl rfl rfl rfl rfl
theorem eX1_howOften_6R {z0 : Nat} : WP (MX1_howOften g) Q (6, [l0, l1], .ref z0 :: .ref p :: st, w, k, n) = (go (rd g w p) 5 (fun _ => True) ∧ wt st ≤ 8 ∧ k + 0 ≤ 2 ∧ n + 0 ≤ 12 ∧ WP (MX1_timesLaid g) (kx (fun v w' => WP (MX1_howOften g) Q (9, [l0, l1], v.toList ++ st, w', k + 0, n + 0)) (fun E w' => Q (.inr E) w')) (0, [some (.ref p), some (.ref z0), none, none], [], w, 0, 0)) := csV0 (M := (MX1_howOften g)) (mc := (fun _ _ => 0)) (ms := (fun _ _ => 0)) (As := [.ref z0]) (rest := st) (MX1_timesLaid g) rfl rfl rfl (dt_q dX1_howOften_0_D 4 rfl) rfl rfl rfl rfl rfl rfl
theorem eX1_howOften_6N  : WP (MX1_howOften g) Q (6, [l0, l1], .null :: .ref p :: st, w, k, n) = (go (rd g w p) 5 (fun _ => True) ∧ wt st ≤ 8 ∧ k + 0 ≤ 2 ∧ n + 0 ≤ 12 ∧ WP (MX1_timesLaid g) (kx (fun v w' => WP (MX1_howOften g) Q (9, [l0, l1], v.toList ++ st, w', k + 0, n + 0)) (fun E w' => Q (.inr E) w')) (0, [some (.ref p), some .null, none, none], [], w, 0, 0)) := csV0 (M := (MX1_howOften g)) (mc := (fun _ _ => 0)) (ms := (fun _ _ => 0)) (As := [.null]) (rest := st) (MX1_timesLaid g) rfl rfl rfl (dt_q dX1_howOften_0_D 4 rfl) rfl rfl rfl rfl rfl rfl
theorem eX1_howOften_9 : WP (MX1_howOften g) Q (9, [l0, l1], [.int a], w, k, n) = (k ≤ 2 ∧ n ≤ 12 ∧ Q (.inl (some (.int a))) w) := iretI_e rfl (dt_q dX1_howOften_0_D 5 rfl) rfl
end
theorem vMX1_howOften {l : Launch} (hl : l.stackTraces = false) (G : GT) : vM l G (MX1_howOften (gg G)) := vM_k RX1 cX1_howOften rfl rfl all_n all_n all_n all_n all_n (fun h => absurd rfl h) (all_c (kc_123 hl wk_874) (all_c (kc_112 hl wk_305) (all_n))) all_n all_n (fun h => absurd rfl h) rfl all_n
theorem okX1_howOften {l : Launch} (hl : l.stackTraces = false) {G : GT} : ∀ (args : List Value) (w : Hw) (S : Ot → Hw → Prop), spOf (MX1_howOften (gg G)) args w S → CX l G yX1_howOften (.code yX1_howOften cX1_howOften 2 (some .int)) 8 2 12 args w S := CX_sp (M := MX1_howOften (gg G)) (y := yX1_howOften) hl (by decide) rfl (vMX1_howOften hl G) (fun h => by cases h) rfl
abbrev dX1_lift_0_T : List (Nat × Instr × Nat) := [(0, .aload_n 0, 1), (1, .aload_n 0, 1), (2, .iload_n 1, 1), (3, .invokevirtual 98, 3), (6, .invokevirtual 189, 3), (9, .istore_n 2, 1), (10, .iload_n 2, 1), (11, .iconst (-1), 1), (12, .if_icmp .ne 5, 3), (15, .iconst 0, 1), (16, .ireturn, 1), (17, .aload_n 0, 1), (18, .iload_n 2, 1), (19, .invokevirtual 195, 3), (22, .iconst 1, 1), (23, .ireturn, 1)]
theorem dX1_lift_0_D : dtc cX1_lift dX1_lift_0_T = true := by decide +kernel
def MX1_lift (g : RO) : MT := ((RX1, cX1_lift, 3, 8, 2, 12, false, some .int), [], [], [], [], [], 0, [(98, 2, 2, 5, 7, (fun _ _ => 2), (fun _ _ => 12), yX1_rangeOf, spOf (MX1_rangeOf g)), (189, 2, 2, 5, 2, (fun _ _ => 0), (fun _ _ => 0), yX1_firstPlaceOf, spOf (MX1_firstPlaceOf g)), (195, 2, 2, 5, 1, (fun _ _ => 0), (fun _ _ => 0), yX1_closeGap, spOf (MX1_closeGap g))], [], [], 0, [], [], g)
section
variable {g : RO} {Q : Ot → Hw → Prop} {st : List Value} {w : Hw} {k n p q : Nat} {a b : Int32} {x y : Int64} {u v : Value} {l0 l1 l2 : Option Value}
theorem eX1_lift_0 : WP (MX1_lift g) Q (0, [some (.ref p), l1, l2], st, w, k, n) = WP (MX1_lift g) Q (1, [some (.ref p), l1, l2], .ref p :: st, w, k, n) := alnR_e rfl (dt_q dX1_lift_0_D 0 rfl) rfl
theorem eX1_lift_0N : WP (MX1_lift g) Q (0, [some .null, l1, l2], st, w, k, n) = WP (MX1_lift g) Q (1, [some .null, l1, l2], .null :: st, w, k, n) := alnN_e rfl (dt_q dX1_lift_0_D 0 rfl) rfl
theorem eX1_lift_1 : WP (MX1_lift g) Q (1, [some (.ref p), l1, l2], st, w, k, n) = WP (MX1_lift g) Q (2, [some (.ref p), l1, l2], .ref p :: st, w, k, n) := alnR_e rfl (dt_q dX1_lift_0_D 1 rfl) rfl
theorem eX1_lift_1N : WP (MX1_lift g) Q (1, [some .null, l1, l2], st, w, k, n) = WP (MX1_lift g) Q (2, [some .null, l1, l2], .null :: st, w, k, n) := alnN_e rfl (dt_q dX1_lift_0_D 1 rfl) rfl
theorem eX1_lift_2 : WP (MX1_lift g) Q (2, [l0, some (.int a), l2], st, w, k, n) = WP (MX1_lift g) Q (3, [l0, some (.int a), l2], .int a :: st, w, k, n) := iln_e rfl (dt_q dX1_lift_0_D 2 rfl) rfl
theorem eX1_lift_3 {z0 : Int32} : WP (MX1_lift g) Q (3, [l0, l1, l2], .int z0 :: .ref p :: st, w, k, n) = (go (rd g w p) 5 (fun _ => True) ∧ wt st ≤ 8 ∧ k + 2 ≤ 2 ∧ n + 12 ≤ 12 ∧ WP (MX1_rangeOf g) (kx (fun v w' => WP (MX1_lift g) Q (6, [l0, l1, l2], v.toList ++ st, w', k + 2, n + 12)) (fun E w' => Q (.inr E) w')) (0, [some (.ref p), some (.int z0), none], [], w, 0, 0)) := csV0 (M := (MX1_lift g)) (mc := (fun _ _ => 2)) (ms := (fun _ _ => 12)) (As := [.int z0]) (rest := st) (MX1_rangeOf g) rfl rfl rfl (dt_q dX1_lift_0_D 3 rfl) rfl rfl rfl rfl rfl rfl
theorem eX1_lift_6R {z0 : Nat} : WP (MX1_lift g) Q (6, [l0, l1, l2], .ref z0 :: .ref p :: st, w, k, n) = (go (rd g w p) 5 (fun _ => True) ∧ wt st ≤ 8 ∧ k + 0 ≤ 2 ∧ n + 0 ≤ 12 ∧ WP (MX1_firstPlaceOf g) (kx (fun v w' => WP (MX1_lift g) Q (9, [l0, l1, l2], v.toList ++ st, w', k + 0, n + 0)) (fun E w' => Q (.inr E) w')) (0, [some (.ref p), some (.ref z0), none], [], w, 0, 0)) := csV0 (M := (MX1_lift g)) (mc := (fun _ _ => 0)) (ms := (fun _ _ => 0)) (As := [.ref z0]) (rest := st) (MX1_firstPlaceOf g) rfl rfl rfl (dt_q dX1_lift_0_D 4 rfl) rfl rfl rfl rfl rfl rfl
theorem eX1_lift_6N  : WP (MX1_lift g) Q (6, [l0, l1, l2], .null :: .ref p :: st, w, k, n) = (go (rd g w p) 5 (fun _ => True) ∧ wt st ≤ 8 ∧ k + 0 ≤ 2 ∧ n + 0 ≤ 12 ∧ WP (MX1_firstPlaceOf g) (kx (fun v w' => WP (MX1_lift g) Q (9, [l0, l1, l2], v.toList ++ st, w', k + 0, n + 0)) (fun E w' => Q (.inr E) w')) (0, [some (.ref p), some .null, none], [], w, 0, 0)) := csV0 (M := (MX1_lift g)) (mc := (fun _ _ => 0)) (ms := (fun _ _ => 0)) (As := [.null]) (rest := st) (MX1_firstPlaceOf g) rfl rfl rfl (dt_q dX1_lift_0_D 4 rfl) rfl rfl rfl rfl rfl rfl
theorem eX1_lift_9 : WP (MX1_lift g) Q (9, [l0, l1, l2], .int a :: st, w, k, n) = WP (MX1_lift g) Q (10, [l0, nl l1, some (.int a)], st, w, k, n) := isn_e rfl (dt_q dX1_lift_0_D 5 rfl) rfl rfl
theorem eX1_lift_10 : WP (MX1_lift g) Q (10, [l0, l1, some (.int a)], st, w, k, n) = WP (MX1_lift g) Q (11, [l0, l1, some (.int a)], .int a :: st, w, k, n) := iln_e rfl (dt_q dX1_lift_0_D 6 rfl) rfl
theorem eX1_lift_11 : WP (MX1_lift g) Q (11, [l0, l1, l2], st, w, k, n) = WP (MX1_lift g) Q (12, [l0, l1, l2], .int (-1) :: st, w, k, n) := ic_m rfl (dt_q dX1_lift_0_D 7 rfl)
theorem eX1_lift_12 : WP (MX1_lift g) Q (12, [l0, l1, l2], .int b :: .int a :: st, w, k, n) = if a = b then WP (MX1_lift g) Q (15, [l0, l1, l2], st, w, k, n) else WP (MX1_lift g) Q (17, [l0, l1, l2], st, w, k, n) := icmn_e (a = b) rfl (dt_q dX1_lift_0_D 8 rfl) rfl (by decide)
theorem eX1_lift_15 : WP (MX1_lift g) Q (15, [l0, l1, l2], st, w, k, n) = WP (MX1_lift g) Q (16, [l0, l1, l2], .int 0 :: st, w, k, n) := ic_0 rfl (dt_q dX1_lift_0_D 9 rfl)
theorem eX1_lift_16 : WP (MX1_lift g) Q (16, [l0, l1, l2], [.int a], w, k, n) = (k ≤ 2 ∧ n ≤ 12 ∧ Q (.inl (some (.int a))) w) := iretI_e rfl (dt_q dX1_lift_0_D 10 rfl) rfl
theorem eX1_lift_17 : WP (MX1_lift g) Q (17, [some (.ref p), l1, l2], st, w, k, n) = WP (MX1_lift g) Q (18, [some (.ref p), l1, l2], .ref p :: st, w, k, n) := alnR_e rfl (dt_q dX1_lift_0_D 11 rfl) rfl
theorem eX1_lift_17N : WP (MX1_lift g) Q (17, [some .null, l1, l2], st, w, k, n) = WP (MX1_lift g) Q (18, [some .null, l1, l2], .null :: st, w, k, n) := alnN_e rfl (dt_q dX1_lift_0_D 11 rfl) rfl
theorem eX1_lift_18 : WP (MX1_lift g) Q (18, [l0, l1, some (.int a)], st, w, k, n) = WP (MX1_lift g) Q (19, [l0, l1, some (.int a)], .int a :: st, w, k, n) := iln_e rfl (dt_q dX1_lift_0_D 12 rfl) rfl
theorem eX1_lift_19 {z0 : Int32} : WP (MX1_lift g) Q (19, [l0, l1, l2], .int z0 :: .ref p :: st, w, k, n) = (go (rd g w p) 5 (fun _ => True) ∧ wt st ≤ 8 ∧ k + 0 ≤ 2 ∧ n + 0 ≤ 12 ∧ WP (MX1_closeGap g) (kx (fun v w' => WP (MX1_lift g) Q (22, [l0, l1, l2], v.toList ++ st, w', k + 0, n + 0)) (fun E w' => Q (.inr E) w')) (0, [some (.ref p), some (.int z0), none], [], w, 0, 0)) := csV0 (M := (MX1_lift g)) (mc := (fun _ _ => 0)) (ms := (fun _ _ => 0)) (As := [.int z0]) (rest := st) (MX1_closeGap g) rfl rfl rfl (dt_q dX1_lift_0_D 13 rfl) rfl rfl rfl rfl rfl rfl
theorem eX1_lift_22 : WP (MX1_lift g) Q (22, [l0, l1, l2], st, w, k, n) = WP (MX1_lift g) Q (23, [l0, l1, l2], .int 1 :: st, w, k, n) := ic_1 rfl (dt_q dX1_lift_0_D 14 rfl)
theorem eX1_lift_23 : WP (MX1_lift g) Q (23, [l0, l1, l2], [.int a], w, k, n) = (k ≤ 2 ∧ n ≤ 12 ∧ Q (.inl (some (.int a))) w) := iretI_e rfl (dt_q dX1_lift_0_D 15 rfl) rfl
end
theorem wk_1087 : (.code yX1_closeGap cX1_closeGap 3 (none) : Jvm.Cond) ∈ WS := WS_t5 69 rfl rfl
theorem wk_1084 : (.methodLink RX1 195 yX1_closeGap : Jvm.Cond) ∈ WS := WS_t5 66 rfl rfl
theorem wk_1086 : (.instanceMethod yX1_closeGap : Jvm.Cond) ∈ WS := WS_t5 68 rfl rfl
theorem wk_32 : (.selects RX1 yX1_closeGap yX1_closeGap : Jvm.Cond) ∈ WS := WS_at 32 (by decide +kernel) rfl
theorem kc_125 {l : Launch} (hl : l.stackTraces = false) {G : GT} {own : String} {i : Nat} (hw : Jvm.Cond.methodLink own i yX1_closeGap ∈ WS) : vCal l G own i (2, 2, 5, 1, (fun _ _ => 0), (fun _ _ => 0), yX1_closeGap, spOf (MX1_closeGap (gg G))) := ⟨cX1_closeGap, 3, none, fun y hy => by subst hy; exact ⟨by decide, ⟨_, wk_1087, okX1_closeGap hl, Or.inl ⟨Nat.ne_of_beq_eq_false rfl, rfl⟩⟩, wk_59, nc14, ⟨(by decide +kernel : (parseMethodDescriptor yX1_closeGap.desc).map (fun d => d.parameters.length + 1) = some 2), hw, wk_1086, wk_32, (RX1, TX1, 7), rfl, rfl⟩⟩⟩
theorem vMX1_lift {l : Launch} (hl : l.stackTraces = false) (G : GT) : vM l G (MX1_lift (gg G)) := vM_k RX1 cX1_lift rfl rfl all_n all_n all_n all_n all_n (fun h => absurd rfl h) (all_c (kc_123 hl wk_874) (all_c (kc_95 hl wk_240) (all_c (kc_125 hl wk_1084) (all_n)))) all_n all_n (fun h => absurd rfl h) rfl all_n
theorem okX1_lift {l : Launch} (hl : l.stackTraces = false) {G : GT} : ∀ (args : List Value) (w : Hw) (S : Ot → Hw → Prop), spOf (MX1_lift (gg G)) args w S → CX l G yX1_lift (.code yX1_lift cX1_lift 3 (some .int)) 8 2 12 args w S := CX_sp (M := MX1_lift (gg G)) (y := yX1_lift) hl (by decide) rfl (vMX1_lift hl G) (fun h => by cases h) rfl
end
/-! 66.class17.lean.txt -/
section
abbrev dX1_pick_0_T : List (Nat × Instr × Nat) := [(0, .aload_n 0, 1), (1, .iload_n 1, 1), (2, .invokevirtual 198, 3), (5, .iload_n 2, 1), (6, .invokestatic 79, 3), (9, .aload_n 0, 1), (10, .getfield 15, 3), (13, .iload_n 2, 1), (14, .aaload, 1), (15, .ifnull 7, 3), (18, .iconst 1, 1), (19, .goto 4, 3), (22, .iconst 0, 1), (23, .invokestatic 130, 3), (26, .istore_n 3, 1), (27, .aload_n 0, 1), (28, .getfield 15, 3), (31, .iload_n 2, 1), (32, .aload_n 0, 1), (33, .getfield 19, 3), (36, .iload_n 1, 1), (37, .aaload, 1), (38, .aastore, 1), (39, .iload_n 3, 1), (40, .ireturn, 1)]
theorem dX1_pick_0_D : dtc cX1_pick dX1_pick_0_T = true := by decide +kernel
def MX1_pick (g : RO) : MT := ((RX1, cX1_pick, 4, 7, 2, 12, false, some .int), [(15, 5, 1), (19, 5, 2)], [], [], [], [], 0, [(198, 2, 2, 5, 6, (fun _ _ => 1), (fun _ _ => 6), yX1_needPlace, spOf (MX1_needPlace g)), (79, 0, 1, 0, 6, (fun _ _ => 1), (fun _ _ => 6), yX1_needCard, spOf (MX1_needCard g)), (130, 0, 1, 0, 1, (fun _ _ => 0), (fun _ _ => 0), yX1_asNumber, spOf (MX1_asNumber g))], [], [], 0, [], [], g)
section
variable {g : RO} {Q : Ot → Hw → Prop} {st : List Value} {w : Hw} {k n p q : Nat} {a b : Int32} {x y : Int64} {u v : Value} {l0 l1 l2 l3 : Option Value}
theorem eX1_pick_0 : WP (MX1_pick g) Q (0, [some (.ref p), l1, l2, l3], st, w, k, n) = WP (MX1_pick g) Q (1, [some (.ref p), l1, l2, l3], .ref p :: st, w, k, n) := alnR_e rfl (dt_q dX1_pick_0_D 0 rfl) rfl
theorem eX1_pick_0N : WP (MX1_pick g) Q (0, [some .null, l1, l2, l3], st, w, k, n) = WP (MX1_pick g) Q (1, [some .null, l1, l2, l3], .null :: st, w, k, n) := alnN_e rfl (dt_q dX1_pick_0_D 0 rfl) rfl
theorem eX1_pick_1 : WP (MX1_pick g) Q (1, [l0, some (.int a), l2, l3], st, w, k, n) = WP (MX1_pick g) Q (2, [l0, some (.int a), l2, l3], .int a :: st, w, k, n) := iln_e rfl (dt_q dX1_pick_0_D 1 rfl) rfl
theorem eX1_pick_2 {z0 : Int32} : WP (MX1_pick g) Q (2, [l0, l1, l2, l3], .int z0 :: .ref p :: st, w, k, n) = (go (rd g w p) 5 (fun _ => True) ∧ wt st ≤ 8 ∧ k + 1 ≤ 2 ∧ n + 6 ≤ 12 ∧ WP (MX1_needPlace g) (kx (fun v w' => WP (MX1_pick g) Q (5, [l0, l1, l2, l3], v.toList ++ st, w', k + 1, n + 6)) (fun E w' => Q (.inr E) w')) (0, [some (.ref p), some (.int z0)], [], w, 0, 0)) := csV0 (M := (MX1_pick g)) (mc := (fun _ _ => 1)) (ms := (fun _ _ => 6)) (As := [.int z0]) (rest := st) (MX1_needPlace g) rfl rfl rfl (dt_q dX1_pick_0_D 2 rfl) rfl rfl rfl rfl rfl rfl
theorem eX1_pick_5 : WP (MX1_pick g) Q (5, [l0, l1, some (.int a), l3], st, w, k, n) = WP (MX1_pick g) Q (6, [l0, l1, some (.int a), l3], .int a :: st, w, k, n) := iln_e rfl (dt_q dX1_pick_0_D 3 rfl) rfl
theorem eX1_pick_6 {z0 : Int32} : WP (MX1_pick g) Q (6, [l0, l1, l2, l3], .int z0 :: st, w, k, n) = (wt st ≤ 8 ∧ k + 1 ≤ 2 ∧ n + 6 ≤ 12 ∧ WP (MX1_needCard g) (kx (fun v w' => WP (MX1_pick g) Q (9, [l0, l1, l2, l3], v.toList ++ st, w', k + 1, n + 6)) (fun E w' => Q (.inr E) w')) (0, [some (.int z0)], [], w, 0, 0)) := csS0 (M := (MX1_pick g)) (mc := (fun _ _ => 1)) (ms := (fun _ _ => 6)) (As := [.int z0]) (rest := st) (MX1_needCard g) rfl rfl rfl (dt_q dX1_pick_0_D 4 rfl) rfl rfl rfl rfl rfl rfl rfl
theorem eX1_pick_9 : WP (MX1_pick g) Q (9, [some (.ref p), l1, l2, l3], st, w, k, n) = WP (MX1_pick g) Q (10, [some (.ref p), l1, l2, l3], .ref p :: st, w, k, n) := alnR_e rfl (dt_q dX1_pick_0_D 5 rfl) rfl
theorem eX1_pick_9N : WP (MX1_pick g) Q (9, [some .null, l1, l2, l3], st, w, k, n) = WP (MX1_pick g) Q (10, [some .null, l1, l2, l3], .null :: st, w, k, n) := alnN_e rfl (dt_q dX1_pick_0_D 5 rfl) rfl
theorem eX1_pick_10 : WP (MX1_pick g) Q (10, [l0, l1, l2, l3], .ref p :: st, w, k, n) = go (rd g w p) 5 fun fs => ∃ v, fs[1]? = some v ∧ WP (MX1_pick g) Q (13, [l0, l1, l2, l3], v :: st, w, k, n) := get_e rfl (dt_q dX1_pick_0_D 6 rfl) rfl
theorem eX1_pick_13 : WP (MX1_pick g) Q (13, [l0, l1, some (.int a), l3], st, w, k, n) = WP (MX1_pick g) Q (14, [l0, l1, some (.int a), l3], .int a :: st, w, k, n) := iln_e rfl (dt_q dX1_pick_0_D 7 rfl) rfl
theorem eX1_pick_14 : WP (MX1_pick g) Q (14, [l0, l1, l2, l3], .int a :: .ref p :: st, w, k, n) = gq (rd g w p) fun t N f => (t = 4 ∨ t = 5) ∧ vp_in a N ∧ WP (MX1_pick g) Q (15, [l0, l1, l2, l3], va_rf (f a.toNatClampNeg) :: st, w, k, n) := aaload_e rfl (dt_q dX1_pick_0_D 8 rfl)
theorem eX1_pick_15R : WP (MX1_pick g) Q (15, [l0, l1, l2, l3], .ref p :: st, w, k, n) = WP (MX1_pick g) Q (18, [l0, l1, l2, l3], st, w, k, n) := ifnullR_e rfl (dt_q dX1_pick_0_D 9 rfl) (tgt := 22) (by decide)
theorem eX1_pick_15N : WP (MX1_pick g) Q (15, [l0, l1, l2, l3], .null :: st, w, k, n) = WP (MX1_pick g) Q (22, [l0, l1, l2, l3], st, w, k, n) := ifnullN_e rfl (dt_q dX1_pick_0_D 9 rfl) (tgt := 22) (by decide)
theorem eX1_pick_18 : WP (MX1_pick g) Q (18, [l0, l1, l2, l3], st, w, k, n) = WP (MX1_pick g) Q (19, [l0, l1, l2, l3], .int 1 :: st, w, k, n) := ic_1 rfl (dt_q dX1_pick_0_D 10 rfl)
theorem eX1_pick_19 : WP (MX1_pick g) Q (19, [l0, l1, l2, l3], st, w, k, n) = WP (MX1_pick g) Q (23, [l0, l1, l2, l3], st, w, k, n) := goto_e rfl (dt_q dX1_pick_0_D 11 rfl) (by decide)
theorem eX1_pick_22 : WP (MX1_pick g) Q (22, [l0, l1, l2, l3], st, w, k, n) = WP (MX1_pick g) Q (23, [l0, l1, l2, l3], .int 0 :: st, w, k, n) := ic_0 rfl (dt_q dX1_pick_0_D 12 rfl)
theorem eX1_pick_23 {z0 : Int32} : WP (MX1_pick g) Q (23, [l0, l1, l2, l3], .int z0 :: st, w, k, n) = (wt st ≤ 8 ∧ k + 0 ≤ 2 ∧ n + 0 ≤ 12 ∧ WP (MX1_asNumber g) (kx (fun v w' => WP (MX1_pick g) Q (26, [l0, l1, l2, l3], v.toList ++ st, w', k + 0, n + 0)) (fun E w' => Q (.inr E) w')) (0, [some (.int z0)], [], w, 0, 0)) := csS0 (M := (MX1_pick g)) (mc := (fun _ _ => 0)) (ms := (fun _ _ => 0)) (As := [.int z0]) (rest := st) (MX1_asNumber g) rfl rfl rfl (dt_q dX1_pick_0_D 13 rfl) rfl rfl rfl rfl rfl rfl rfl
theorem eX1_pick_26 : WP (MX1_pick g) Q (26, [l0, l1, l2, l3], .int a :: st, w, k, n) = WP (MX1_pick g) Q (27, [l0, l1, nl l2, some (.int a)], st, w, k, n) := isn_e rfl (dt_q dX1_pick_0_D 14 rfl) rfl rfl
theorem eX1_pick_27 : WP (MX1_pick g) Q (27, [some (.ref p), l1, l2, l3], st, w, k, n) = WP (MX1_pick g) Q (28, [some (.ref p), l1, l2, l3], .ref p :: st, w, k, n) := alnR_e rfl (dt_q dX1_pick_0_D 15 rfl) rfl
theorem eX1_pick_27N : WP (MX1_pick g) Q (27, [some .null, l1, l2, l3], st, w, k, n) = WP (MX1_pick g) Q (28, [some .null, l1, l2, l3], .null :: st, w, k, n) := alnN_e rfl (dt_q dX1_pick_0_D 15 rfl) rfl
theorem eX1_pick_28 : WP (MX1_pick g) Q (28, [l0, l1, l2, l3], .ref p :: st, w, k, n) = go (rd g w p) 5 fun fs => ∃ v, fs[1]? = some v ∧ WP (MX1_pick g) Q (31, [l0, l1, l2, l3], v :: st, w, k, n) := get_e rfl (dt_q dX1_pick_0_D 16 rfl) rfl
theorem eX1_pick_31 : WP (MX1_pick g) Q (31, [l0, l1, some (.int a), l3], st, w, k, n) = WP (MX1_pick g) Q (32, [l0, l1, some (.int a), l3], .int a :: st, w, k, n) := iln_e rfl (dt_q dX1_pick_0_D 17 rfl) rfl
theorem eX1_pick_32 : WP (MX1_pick g) Q (32, [some (.ref p), l1, l2, l3], st, w, k, n) = WP (MX1_pick g) Q (33, [some (.ref p), l1, l2, l3], .ref p :: st, w, k, n) := alnR_e rfl (dt_q dX1_pick_0_D 18 rfl) rfl
theorem eX1_pick_32N : WP (MX1_pick g) Q (32, [some .null, l1, l2, l3], st, w, k, n) = WP (MX1_pick g) Q (33, [some .null, l1, l2, l3], .null :: st, w, k, n) := alnN_e rfl (dt_q dX1_pick_0_D 18 rfl) rfl
theorem eX1_pick_33 : WP (MX1_pick g) Q (33, [l0, l1, l2, l3], .ref p :: st, w, k, n) = go (rd g w p) 5 fun fs => ∃ v, fs[2]? = some v ∧ WP (MX1_pick g) Q (36, [l0, l1, l2, l3], v :: st, w, k, n) := get_e rfl (dt_q dX1_pick_0_D 19 rfl) rfl
theorem eX1_pick_36 : WP (MX1_pick g) Q (36, [l0, some (.int a), l2, l3], st, w, k, n) = WP (MX1_pick g) Q (37, [l0, some (.int a), l2, l3], .int a :: st, w, k, n) := iln_e rfl (dt_q dX1_pick_0_D 20 rfl) rfl
theorem eX1_pick_37 : WP (MX1_pick g) Q (37, [l0, l1, l2, l3], .int a :: .ref p :: st, w, k, n) = gq (rd g w p) fun t N f => (t = 4 ∨ t = 5) ∧ vp_in a N ∧ WP (MX1_pick g) Q (38, [l0, l1, l2, l3], va_rf (f a.toNatClampNeg) :: st, w, k, n) := aaload_e rfl (dt_q dX1_pick_0_D 21 rfl)
theorem eX1_pick_38N : WP (MX1_pick g) Q (38, [l0, l1, l2, l3], .null :: .int a :: .ref p :: st, w, k, n) = gq (w p) fun t N f => vp_in a N ∧ (t = 4 ∨ t = 5) ∧ WP (MX1_pick g) Q (39, [l0, l1, l2, l3], st, upw w p (.inl (t, N, .inr (.inr (.inr (.inr (va_up f a.toNatClampNeg none)))))), k, n) := aastN_e rfl (dt_q dX1_pick_0_D 22 rfl)
theorem eX1_pick_38R : WP (MX1_pick g) Q (38, [l0, l1, l2, l3], .ref q :: .int a :: .ref p :: st, w, k, n) = gq (w p) fun t N f => vp_in a N ∧ ((t = 4 ∧ go (w q) 4 fun _ => True) ∨ (t = 5 ∧ gl (w q) 0 fun _ _ => True)) ∧ WP (MX1_pick g) Q (39, [l0, l1, l2, l3], st, upw w p (.inl (t, N, .inr (.inr (.inr (.inr (va_up f a.toNatClampNeg (some q))))))), k, n) := aastR_e rfl (dt_q dX1_pick_0_D 22 rfl)
theorem eX1_pick_39 : WP (MX1_pick g) Q (39, [l0, l1, l2, some (.int a)], st, w, k, n) = WP (MX1_pick g) Q (40, [l0, l1, l2, some (.int a)], .int a :: st, w, k, n) := iln_e rfl (dt_q dX1_pick_0_D 23 rfl) rfl
theorem eX1_pick_40 : WP (MX1_pick g) Q (40, [l0, l1, l2, l3], [.int a], w, k, n) = (k ≤ 2 ∧ n ≤ 12 ∧ Q (.inl (some (.int a))) w) := iretI_e rfl (dt_q dX1_pick_0_D 24 rfl) rfl
end
theorem wk_1098 : (.code yX1_needPlace cX1_needPlace 2 (none) : Jvm.Cond) ∈ WS := WS_t5 80 rfl rfl
theorem wk_1095 : (.methodLink RX1 198 yX1_needPlace : Jvm.Cond) ∈ WS := WS_t5 77 rfl rfl
theorem wk_1097 : (.instanceMethod yX1_needPlace : Jvm.Cond) ∈ WS := WS_t5 79 rfl rfl
theorem wk_33 : (.selects RX1 yX1_needPlace yX1_needPlace : Jvm.Cond) ∈ WS := WS_at 33 (by decide +kernel) rfl
theorem kc_126 {l : Launch} (hl : l.stackTraces = false) {G : GT} {own : String} {i : Nat} (hw : Jvm.Cond.methodLink own i yX1_needPlace ∈ WS) : vCal l G own i (2, 2, 5, 6, (fun _ _ => 1), (fun _ _ => 6), yX1_needPlace, spOf (MX1_needPlace (gg G))) := ⟨cX1_needPlace, 2, none, fun y hy => by subst hy; exact ⟨by decide, ⟨_, wk_1098, okX1_needPlace hl, Or.inl ⟨Nat.ne_of_beq_eq_false rfl, rfl⟩⟩, wk_59, nc14, ⟨(by decide +kernel : (parseMethodDescriptor yX1_needPlace.desc).map (fun d => d.parameters.length + 1) = some 2), hw, wk_1097, wk_33, (RX1, TX1, 7), rfl, rfl⟩⟩⟩
theorem vMX1_pick {l : Launch} (hl : l.stackTraces = false) (G : GT) : vM l G (MX1_pick (gg G)) := vM_k RX1 cX1_pick rfl rfl (all_c (vF_RX1_15) (all_c (vF_RX1_19) (all_n))) all_n all_n all_n all_n (fun h => absurd rfl h) (all_c (kc_126 hl wk_1095) (all_c (kc_78 hl wk_816) (all_c (kc_86 hl wk_261) (all_n)))) all_n all_n (fun h => absurd rfl h) rfl all_n
theorem okX1_pick {l : Launch} (hl : l.stackTraces = false) {G : GT} : ∀ (args : List Value) (w : Hw) (S : Ot → Hw → Prop), spOf (MX1_pick (gg G)) args w S → CX l G yX1_pick (.code yX1_pick cX1_pick 4 (some .int)) 7 2 12 args w S := CX_sp (M := MX1_pick (gg G)) (y := yX1_pick) hl (by decide) rfl (vMX1_pick hl G) (fun h => by cases h) rfl
abbrev dX1_turn_0_T : List (Nat × Instr × Nat) := [(0, .iconst 0, 1), (1, .istore_n 1, 1), (2, .iload_n 1, 1), (3, .aload_n 0, 1), (4, .getfield 22, 3), (7, .iconst 2, 1), (8, .idiv, 1), (9, .if_icmp .ge 44, 3), (12, .aload_n 0, 1), (13, .getfield 22, 3), (16, .iconst 1, 1), (17, .isub, 1), (18, .iload_n 1, 1), (19, .isub, 1), (20, .istore_n 2, 1), (21, .aload_n 0, 1), (22, .getfield 19, 3), (25, .iload_n 1, 1), (26, .aaload, 1), (27, .astore_n 3, 1), (28, .aload_n 0, 1), (29, .getfield 19, 3), (32, .iload_n 1, 1), (33, .aload_n 0, 1), (34, .getfield 19, 3), (37, .iload_n 2, 1), (38, .aaload, 1), (39, .aastore, 1), (40, .aload_n 0, 1), (41, .getfield 19, 3), (44, .iload_n 2, 1), (45, .aload_n 3, 1), (46, .aastore, 1), (47, .iinc 1 1, 3), (50, .goto (-48), 3), (53, .aload_n 0, 1), (54, .getfield 22, 3), (57, .ireturn, 1)]
theorem dX1_turn_0_D : dtc cX1_turn dX1_turn_0_T = true := by decide +kernel
def MX1_turn (g : RO) : MT := ((RX1, cX1_turn, 4, 1, 0, 0, false, some .int), [(22, 5, 3), (19, 5, 2)], [], [], [], [], 0, [], [], [], 0, [], [], g)
section
variable {g : RO} {Q : Ot → Hw → Prop} {st : List Value} {w : Hw} {k n p q : Nat} {a b : Int32} {x y : Int64} {u v : Value} {l0 l1 l2 l3 : Option Value}
theorem eX1_turn_0 : WP (MX1_turn g) Q (0, [l0, l1, l2, l3], st, w, k, n) = WP (MX1_turn g) Q (1, [l0, l1, l2, l3], .int 0 :: st, w, k, n) := ic_0 rfl (dt_q dX1_turn_0_D 0 rfl)
theorem eX1_turn_1 : WP (MX1_turn g) Q (1, [l0, l1, l2, l3], .int a :: st, w, k, n) = WP (MX1_turn g) Q (2, [nl l0, some (.int a), l2, l3], st, w, k, n) := isn_e rfl (dt_q dX1_turn_0_D 1 rfl) rfl rfl
theorem eX1_turn_2 : WP (MX1_turn g) Q (2, [l0, some (.int a), l2, l3], st, w, k, n) = WP (MX1_turn g) Q (3, [l0, some (.int a), l2, l3], .int a :: st, w, k, n) := iln_e rfl (dt_q dX1_turn_0_D 2 rfl) rfl
theorem eX1_turn_3 : WP (MX1_turn g) Q (3, [some (.ref p), l1, l2, l3], st, w, k, n) = WP (MX1_turn g) Q (4, [some (.ref p), l1, l2, l3], .ref p :: st, w, k, n) := alnR_e rfl (dt_q dX1_turn_0_D 3 rfl) rfl
theorem eX1_turn_3N : WP (MX1_turn g) Q (3, [some .null, l1, l2, l3], st, w, k, n) = WP (MX1_turn g) Q (4, [some .null, l1, l2, l3], .null :: st, w, k, n) := alnN_e rfl (dt_q dX1_turn_0_D 3 rfl) rfl
theorem eX1_turn_4 : WP (MX1_turn g) Q (4, [l0, l1, l2, l3], .ref p :: st, w, k, n) = go (rd g w p) 5 fun fs => ∃ v, fs[3]? = some v ∧ WP (MX1_turn g) Q (7, [l0, l1, l2, l3], v :: st, w, k, n) := get_e rfl (dt_q dX1_turn_0_D 4 rfl) rfl
theorem eX1_turn_7 : WP (MX1_turn g) Q (7, [l0, l1, l2, l3], st, w, k, n) = WP (MX1_turn g) Q (8, [l0, l1, l2, l3], .int 2 :: st, w, k, n) := ic_2 rfl (dt_q dX1_turn_0_D 5 rfl)
theorem eX1_turn_8 : WP (MX1_turn g) Q (8, [l0, l1, l2, l3], .int b :: .int a :: st, w, k, n) = (¬ b = 0 ∧ WP (MX1_turn g) Q (9, [l0, l1, l2, l3], .int (a / b) :: st, w, k, n)) := Eq.trans (WP_at (M := (MX1_turn g)) rfl (dt_q dX1_turn_0_D 6 rfl) (Or.inr rfl)) rfl
theorem eX1_turn_9 : WP (MX1_turn g) Q (9, [l0, l1, l2, l3], .int b :: .int a :: st, w, k, n) = if b ≤ a then WP (MX1_turn g) Q (53, [l0, l1, l2, l3], st, w, k, n) else WP (MX1_turn g) Q (12, [l0, l1, l2, l3], st, w, k, n) := icm_e (b ≤ a) rfl (dt_q dX1_turn_0_D 7 rfl) rfl (by decide)
theorem eX1_turn_12 : WP (MX1_turn g) Q (12, [some (.ref p), l1, l2, l3], st, w, k, n) = WP (MX1_turn g) Q (13, [some (.ref p), l1, l2, l3], .ref p :: st, w, k, n) := alnR_e rfl (dt_q dX1_turn_0_D 8 rfl) rfl
theorem eX1_turn_12N : WP (MX1_turn g) Q (12, [some .null, l1, l2, l3], st, w, k, n) = WP (MX1_turn g) Q (13, [some .null, l1, l2, l3], .null :: st, w, k, n) := alnN_e rfl (dt_q dX1_turn_0_D 8 rfl) rfl
theorem eX1_turn_13 : WP (MX1_turn g) Q (13, [l0, l1, l2, l3], .ref p :: st, w, k, n) = go (rd g w p) 5 fun fs => ∃ v, fs[3]? = some v ∧ WP (MX1_turn g) Q (16, [l0, l1, l2, l3], v :: st, w, k, n) := get_e rfl (dt_q dX1_turn_0_D 9 rfl) rfl
theorem eX1_turn_16 : WP (MX1_turn g) Q (16, [l0, l1, l2, l3], st, w, k, n) = WP (MX1_turn g) Q (17, [l0, l1, l2, l3], .int 1 :: st, w, k, n) := ic_1 rfl (dt_q dX1_turn_0_D 10 rfl)
theorem eX1_turn_17 : WP (MX1_turn g) Q (17, [l0, l1, l2, l3], .int b :: .int a :: st, w, k, n) = WP (MX1_turn g) Q (18, [l0, l1, l2, l3], .int (a - b) :: st, w, k, n) := isub_e rfl (dt_q dX1_turn_0_D 11 rfl)
theorem eX1_turn_18 : WP (MX1_turn g) Q (18, [l0, some (.int a), l2, l3], st, w, k, n) = WP (MX1_turn g) Q (19, [l0, some (.int a), l2, l3], .int a :: st, w, k, n) := iln_e rfl (dt_q dX1_turn_0_D 12 rfl) rfl
theorem eX1_turn_19 : WP (MX1_turn g) Q (19, [l0, l1, l2, l3], .int b :: .int a :: st, w, k, n) = WP (MX1_turn g) Q (20, [l0, l1, l2, l3], .int (a - b) :: st, w, k, n) := isub_e rfl (dt_q dX1_turn_0_D 13 rfl)
theorem eX1_turn_20 : WP (MX1_turn g) Q (20, [l0, l1, l2, l3], .int a :: st, w, k, n) = WP (MX1_turn g) Q (21, [l0, nl l1, some (.int a), l3], st, w, k, n) := isn_e rfl (dt_q dX1_turn_0_D 14 rfl) rfl rfl
theorem eX1_turn_21 : WP (MX1_turn g) Q (21, [some (.ref p), l1, l2, l3], st, w, k, n) = WP (MX1_turn g) Q (22, [some (.ref p), l1, l2, l3], .ref p :: st, w, k, n) := alnR_e rfl (dt_q dX1_turn_0_D 15 rfl) rfl
theorem eX1_turn_21N : WP (MX1_turn g) Q (21, [some .null, l1, l2, l3], st, w, k, n) = WP (MX1_turn g) Q (22, [some .null, l1, l2, l3], .null :: st, w, k, n) := alnN_e rfl (dt_q dX1_turn_0_D 15 rfl) rfl
theorem eX1_turn_22 : WP (MX1_turn g) Q (22, [l0, l1, l2, l3], .ref p :: st, w, k, n) = go (rd g w p) 5 fun fs => ∃ v, fs[2]? = some v ∧ WP (MX1_turn g) Q (25, [l0, l1, l2, l3], v :: st, w, k, n) := get_e rfl (dt_q dX1_turn_0_D 16 rfl) rfl
theorem eX1_turn_25 : WP (MX1_turn g) Q (25, [l0, some (.int a), l2, l3], st, w, k, n) = WP (MX1_turn g) Q (26, [l0, some (.int a), l2, l3], .int a :: st, w, k, n) := iln_e rfl (dt_q dX1_turn_0_D 17 rfl) rfl
theorem eX1_turn_26 : WP (MX1_turn g) Q (26, [l0, l1, l2, l3], .int a :: .ref p :: st, w, k, n) = gq (rd g w p) fun t N f => (t = 4 ∨ t = 5) ∧ vp_in a N ∧ WP (MX1_turn g) Q (27, [l0, l1, l2, l3], va_rf (f a.toNatClampNeg) :: st, w, k, n) := aaload_e rfl (dt_q dX1_turn_0_D 18 rfl)
theorem eX1_turn_27 : WP (MX1_turn g) Q (27, [l0, l1, l2, l3], .ref p :: st, w, k, n) = WP (MX1_turn g) Q (28, [l0, l1, nl l2, some (.ref p)], st, w, k, n) := asnR_e rfl (dt_q dX1_turn_0_D 19 rfl) rfl rfl
theorem eX1_turn_27N : WP (MX1_turn g) Q (27, [l0, l1, l2, l3], .null :: st, w, k, n) = WP (MX1_turn g) Q (28, [l0, l1, nl l2, some (.null)], st, w, k, n) := asnN_e rfl (dt_q dX1_turn_0_D 19 rfl) rfl rfl
theorem eX1_turn_28 : WP (MX1_turn g) Q (28, [some (.ref p), l1, l2, l3], st, w, k, n) = WP (MX1_turn g) Q (29, [some (.ref p), l1, l2, l3], .ref p :: st, w, k, n) := alnR_e rfl (dt_q dX1_turn_0_D 20 rfl) rfl
theorem eX1_turn_28N : WP (MX1_turn g) Q (28, [some .null, l1, l2, l3], st, w, k, n) = WP (MX1_turn g) Q (29, [some .null, l1, l2, l3], .null :: st, w, k, n) := alnN_e rfl (dt_q dX1_turn_0_D 20 rfl) rfl
theorem eX1_turn_29 : WP (MX1_turn g) Q (29, [l0, l1, l2, l3], .ref p :: st, w, k, n) = go (rd g w p) 5 fun fs => ∃ v, fs[2]? = some v ∧ WP (MX1_turn g) Q (32, [l0, l1, l2, l3], v :: st, w, k, n) := get_e rfl (dt_q dX1_turn_0_D 21 rfl) rfl
theorem eX1_turn_32 : WP (MX1_turn g) Q (32, [l0, some (.int a), l2, l3], st, w, k, n) = WP (MX1_turn g) Q (33, [l0, some (.int a), l2, l3], .int a :: st, w, k, n) := iln_e rfl (dt_q dX1_turn_0_D 22 rfl) rfl
theorem eX1_turn_33 : WP (MX1_turn g) Q (33, [some (.ref p), l1, l2, l3], st, w, k, n) = WP (MX1_turn g) Q (34, [some (.ref p), l1, l2, l3], .ref p :: st, w, k, n) := alnR_e rfl (dt_q dX1_turn_0_D 23 rfl) rfl
theorem eX1_turn_33N : WP (MX1_turn g) Q (33, [some .null, l1, l2, l3], st, w, k, n) = WP (MX1_turn g) Q (34, [some .null, l1, l2, l3], .null :: st, w, k, n) := alnN_e rfl (dt_q dX1_turn_0_D 23 rfl) rfl
theorem eX1_turn_34 : WP (MX1_turn g) Q (34, [l0, l1, l2, l3], .ref p :: st, w, k, n) = go (rd g w p) 5 fun fs => ∃ v, fs[2]? = some v ∧ WP (MX1_turn g) Q (37, [l0, l1, l2, l3], v :: st, w, k, n) := get_e rfl (dt_q dX1_turn_0_D 24 rfl) rfl
theorem eX1_turn_37 : WP (MX1_turn g) Q (37, [l0, l1, some (.int a), l3], st, w, k, n) = WP (MX1_turn g) Q (38, [l0, l1, some (.int a), l3], .int a :: st, w, k, n) := iln_e rfl (dt_q dX1_turn_0_D 25 rfl) rfl
theorem eX1_turn_38 : WP (MX1_turn g) Q (38, [l0, l1, l2, l3], .int a :: .ref p :: st, w, k, n) = gq (rd g w p) fun t N f => (t = 4 ∨ t = 5) ∧ vp_in a N ∧ WP (MX1_turn g) Q (39, [l0, l1, l2, l3], va_rf (f a.toNatClampNeg) :: st, w, k, n) := aaload_e rfl (dt_q dX1_turn_0_D 26 rfl)
theorem eX1_turn_39N : WP (MX1_turn g) Q (39, [l0, l1, l2, l3], .null :: .int a :: .ref p :: st, w, k, n) = gq (w p) fun t N f => vp_in a N ∧ (t = 4 ∨ t = 5) ∧ WP (MX1_turn g) Q (40, [l0, l1, l2, l3], st, upw w p (.inl (t, N, .inr (.inr (.inr (.inr (va_up f a.toNatClampNeg none)))))), k, n) := aastN_e rfl (dt_q dX1_turn_0_D 27 rfl)
theorem eX1_turn_39R : WP (MX1_turn g) Q (39, [l0, l1, l2, l3], .ref q :: .int a :: .ref p :: st, w, k, n) = gq (w p) fun t N f => vp_in a N ∧ ((t = 4 ∧ go (w q) 4 fun _ => True) ∨ (t = 5 ∧ gl (w q) 0 fun _ _ => True)) ∧ WP (MX1_turn g) Q (40, [l0, l1, l2, l3], st, upw w p (.inl (t, N, .inr (.inr (.inr (.inr (va_up f a.toNatClampNeg (some q))))))), k, n) := aastR_e rfl (dt_q dX1_turn_0_D 27 rfl)
theorem eX1_turn_40 : WP (MX1_turn g) Q (40, [some (.ref p), l1, l2, l3], st, w, k, n) = WP (MX1_turn g) Q (41, [some (.ref p), l1, l2, l3], .ref p :: st, w, k, n) := alnR_e rfl (dt_q dX1_turn_0_D 28 rfl) rfl
theorem eX1_turn_40N : WP (MX1_turn g) Q (40, [some .null, l1, l2, l3], st, w, k, n) = WP (MX1_turn g) Q (41, [some .null, l1, l2, l3], .null :: st, w, k, n) := alnN_e rfl (dt_q dX1_turn_0_D 28 rfl) rfl
theorem eX1_turn_41 : WP (MX1_turn g) Q (41, [l0, l1, l2, l3], .ref p :: st, w, k, n) = go (rd g w p) 5 fun fs => ∃ v, fs[2]? = some v ∧ WP (MX1_turn g) Q (44, [l0, l1, l2, l3], v :: st, w, k, n) := get_e rfl (dt_q dX1_turn_0_D 29 rfl) rfl
theorem eX1_turn_44 : WP (MX1_turn g) Q (44, [l0, l1, some (.int a), l3], st, w, k, n) = WP (MX1_turn g) Q (45, [l0, l1, some (.int a), l3], .int a :: st, w, k, n) := iln_e rfl (dt_q dX1_turn_0_D 30 rfl) rfl
theorem eX1_turn_45 : WP (MX1_turn g) Q (45, [l0, l1, l2, some (.ref p)], st, w, k, n) = WP (MX1_turn g) Q (46, [l0, l1, l2, some (.ref p)], .ref p :: st, w, k, n) := alnR_e rfl (dt_q dX1_turn_0_D 31 rfl) rfl
theorem eX1_turn_45N : WP (MX1_turn g) Q (45, [l0, l1, l2, some .null], st, w, k, n) = WP (MX1_turn g) Q (46, [l0, l1, l2, some .null], .null :: st, w, k, n) := alnN_e rfl (dt_q dX1_turn_0_D 31 rfl) rfl
theorem eX1_turn_46N : WP (MX1_turn g) Q (46, [l0, l1, l2, l3], .null :: .int a :: .ref p :: st, w, k, n) = gq (w p) fun t N f => vp_in a N ∧ (t = 4 ∨ t = 5) ∧ WP (MX1_turn g) Q (47, [l0, l1, l2, l3], st, upw w p (.inl (t, N, .inr (.inr (.inr (.inr (va_up f a.toNatClampNeg none)))))), k, n) := aastN_e rfl (dt_q dX1_turn_0_D 32 rfl)
theorem eX1_turn_46R : WP (MX1_turn g) Q (46, [l0, l1, l2, l3], .ref q :: .int a :: .ref p :: st, w, k, n) = gq (w p) fun t N f => vp_in a N ∧ ((t = 4 ∧ go (w q) 4 fun _ => True) ∨ (t = 5 ∧ gl (w q) 0 fun _ _ => True)) ∧ WP (MX1_turn g) Q (47, [l0, l1, l2, l3], st, upw w p (.inl (t, N, .inr (.inr (.inr (.inr (va_up f a.toNatClampNeg (some q))))))), k, n) := aastR_e rfl (dt_q dX1_turn_0_D 32 rfl)
theorem eX1_turn_47 : WP (MX1_turn g) Q (47, [l0, some (.int a), l2, l3], st, w, k, n) = WP (MX1_turn g) Q (50, [nl l0, some (.int (a + 1)), l2, l3], st, w, k, n) := Eq.trans (iinc_e (M := (MX1_turn g)) (L := [l0, some (.int a), l2, l3]) (d := 1) rfl (dt_q dX1_turn_0_D 33 rfl) (by decide) rfl) rfl
theorem eX1_turn_50 : WP (MX1_turn g) Q (50, [l0, l1, l2, l3], st, w, k, n) = WP (MX1_turn g) Q (2, [l0, l1, l2, l3], st, w, k, n) := goto_e rfl (dt_q dX1_turn_0_D 34 rfl) (by decide)
theorem eX1_turn_53 : WP (MX1_turn g) Q (53, [some (.ref p), l1, l2, l3], st, w, k, n) = WP (MX1_turn g) Q (54, [some (.ref p), l1, l2, l3], .ref p :: st, w, k, n) := alnR_e rfl (dt_q dX1_turn_0_D 35 rfl) rfl
theorem eX1_turn_53N : WP (MX1_turn g) Q (53, [some .null, l1, l2, l3], st, w, k, n) = WP (MX1_turn g) Q (54, [some .null, l1, l2, l3], .null :: st, w, k, n) := alnN_e rfl (dt_q dX1_turn_0_D 35 rfl) rfl
theorem eX1_turn_54 : WP (MX1_turn g) Q (54, [l0, l1, l2, l3], .ref p :: st, w, k, n) = go (rd g w p) 5 fun fs => ∃ v, fs[3]? = some v ∧ WP (MX1_turn g) Q (57, [l0, l1, l2, l3], v :: st, w, k, n) := get_e rfl (dt_q dX1_turn_0_D 36 rfl) rfl
theorem eX1_turn_57 : WP (MX1_turn g) Q (57, [l0, l1, l2, l3], [.int a], w, k, n) = (k ≤ 0 ∧ n ≤ 0 ∧ Q (.inl (some (.int a))) w) := iretI_e rfl (dt_q dX1_turn_0_D 37 rfl) rfl
end
theorem vMX1_turn {l : Launch} (hl : l.stackTraces = false) (G : GT) : vM l G (MX1_turn (gg G)) := vM_k RX1 cX1_turn rfl rfl (all_c (vF_RX1_22) (all_c (vF_RX1_19) (all_n))) all_n all_n all_n all_n (fun h => absurd rfl h) all_n all_n all_n (fun h => absurd rfl h) rfl all_n
theorem okX1_turn {l : Launch} (hl : l.stackTraces = false) {G : GT} : ∀ (args : List Value) (w : Hw) (S : Ot → Hw → Prop), spOf (MX1_turn (gg G)) args w S → CX l G yX1_turn (.code yX1_turn cX1_turn 4 (some .int)) 1 0 0 args w S := CX_sp (M := MX1_turn (gg G)) (y := yX1_turn) hl (by decide) rfl (vMX1_turn hl G) (fun h => by cases h) rfl
abbrev dX1_sweep_0_T : List (Nat × Instr × Nat) := [(0, .aload_n 0, 1), (1, .getfield 22, 3), (4, .istore_n 1, 1), (5, .iconst 0, 1), (6, .istore_n 2, 1), (7, .iload_n 2, 1), (8, .aload_n 0, 1), (9, .getfield 19, 3), (12, .arraylength, 1), (13, .if_icmp .ge 16, 3), (16, .aload_n 0, 1), (17, .getfield 19, 3), (20, .iload_n 2, 1), (21, .aconst_null, 1), (22, .aastore, 1), (23, .iinc 2 1, 3), (26, .goto (-19), 3), (29, .aload_n 0, 1), (30, .iconst 0, 1), (31, .putfield 22, 3), (34, .iload_n 1, 1), (35, .ireturn, 1)]
theorem dX1_sweep_0_D : dtc cX1_sweep dX1_sweep_0_T = true := by decide +kernel
def MX1_sweep (g : RO) : MT := ((RX1, cX1_sweep, 3, 1, 0, 0, false, some .int), [(22, 5, 3), (19, 5, 2)], [], [], [], [], 0, [], [], [], 0, [], [], g)
section
variable {g : RO} {Q : Ot → Hw → Prop} {st : List Value} {w : Hw} {k n p q : Nat} {a b : Int32} {x y : Int64} {u v : Value} {l0 l1 l2 : Option Value}
theorem eX1_sweep_0 : WP (MX1_sweep g) Q (0, [some (.ref p), l1, l2], st, w, k, n) = WP (MX1_sweep g) Q (1, [some (.ref p), l1, l2], .ref p :: st, w, k, n) := alnR_e rfl (dt_q dX1_sweep_0_D 0 rfl) rfl
theorem eX1_sweep_0N : WP (MX1_sweep g) Q (0, [some .null, l1, l2], st, w, k, n) = WP (MX1_sweep g) Q (1, [some .null, l1, l2], .null :: st, w, k, n) := alnN_e rfl (dt_q dX1_sweep_0_D 0 rfl) rfl
theorem eX1_sweep_1 : WP (MX1_sweep g) Q (1, [l0, l1, l2], .ref p :: st, w, k, n) = go (rd g w p) 5 fun fs => ∃ v, fs[3]? = some v ∧ WP (MX1_sweep g) Q (4, [l0, l1, l2], v :: st, w, k, n) := get_e rfl (dt_q dX1_sweep_0_D 1 rfl) rfl
theorem eX1_sweep_4 : WP (MX1_sweep g) Q (4, [l0, l1, l2], .int a :: st, w, k, n) = WP (MX1_sweep g) Q (5, [nl l0, some (.int a), l2], st, w, k, n) := isn_e rfl (dt_q dX1_sweep_0_D 2 rfl) rfl rfl
theorem eX1_sweep_5 : WP (MX1_sweep g) Q (5, [l0, l1, l2], st, w, k, n) = WP (MX1_sweep g) Q (6, [l0, l1, l2], .int 0 :: st, w, k, n) := ic_0 rfl (dt_q dX1_sweep_0_D 3 rfl)
theorem eX1_sweep_6 : WP (MX1_sweep g) Q (6, [l0, l1, l2], .int a :: st, w, k, n) = WP (MX1_sweep g) Q (7, [l0, nl l1, some (.int a)], st, w, k, n) := isn_e rfl (dt_q dX1_sweep_0_D 4 rfl) rfl rfl
theorem eX1_sweep_7 : WP (MX1_sweep g) Q (7, [l0, l1, some (.int a)], st, w, k, n) = WP (MX1_sweep g) Q (8, [l0, l1, some (.int a)], .int a :: st, w, k, n) := iln_e rfl (dt_q dX1_sweep_0_D 5 rfl) rfl
theorem eX1_sweep_8 : WP (MX1_sweep g) Q (8, [some (.ref p), l1, l2], st, w, k, n) = WP (MX1_sweep g) Q (9, [some (.ref p), l1, l2], .ref p :: st, w, k, n) := alnR_e rfl (dt_q dX1_sweep_0_D 6 rfl) rfl
theorem eX1_sweep_8N : WP (MX1_sweep g) Q (8, [some .null, l1, l2], st, w, k, n) = WP (MX1_sweep g) Q (9, [some .null, l1, l2], .null :: st, w, k, n) := alnN_e rfl (dt_q dX1_sweep_0_D 6 rfl) rfl
theorem eX1_sweep_9 : WP (MX1_sweep g) Q (9, [l0, l1, l2], .ref p :: st, w, k, n) = go (rd g w p) 5 fun fs => ∃ v, fs[2]? = some v ∧ WP (MX1_sweep g) Q (12, [l0, l1, l2], v :: st, w, k, n) := get_e rfl (dt_q dX1_sweep_0_D 7 rfl) rfl
theorem eX1_sweep_12 : WP (MX1_sweep g) Q (12, [l0, l1, l2], .ref p :: st, w, k, n) = ∃ t z, rd g w p = some (.inl (t, z)) ∧ t < 6 ∧ WP (MX1_sweep g) Q (13, [l0, l1, l2], .int (Int32.ofNat z.1) :: st, w, k, n) := Eq.trans (WP_at (M := (MX1_sweep g)) rfl (dt_q dX1_sweep_0_D 8 rfl) (Or.inr rfl)) rfl
theorem eX1_sweep_13 : WP (MX1_sweep g) Q (13, [l0, l1, l2], .int b :: .int a :: st, w, k, n) = if b ≤ a then WP (MX1_sweep g) Q (29, [l0, l1, l2], st, w, k, n) else WP (MX1_sweep g) Q (16, [l0, l1, l2], st, w, k, n) := icm_e (b ≤ a) rfl (dt_q dX1_sweep_0_D 9 rfl) rfl (by decide)
theorem eX1_sweep_16 : WP (MX1_sweep g) Q (16, [some (.ref p), l1, l2], st, w, k, n) = WP (MX1_sweep g) Q (17, [some (.ref p), l1, l2], .ref p :: st, w, k, n) := alnR_e rfl (dt_q dX1_sweep_0_D 10 rfl) rfl
theorem eX1_sweep_16N : WP (MX1_sweep g) Q (16, [some .null, l1, l2], st, w, k, n) = WP (MX1_sweep g) Q (17, [some .null, l1, l2], .null :: st, w, k, n) := alnN_e rfl (dt_q dX1_sweep_0_D 10 rfl) rfl
theorem eX1_sweep_17 : WP (MX1_sweep g) Q (17, [l0, l1, l2], .ref p :: st, w, k, n) = go (rd g w p) 5 fun fs => ∃ v, fs[2]? = some v ∧ WP (MX1_sweep g) Q (20, [l0, l1, l2], v :: st, w, k, n) := get_e rfl (dt_q dX1_sweep_0_D 11 rfl) rfl
theorem eX1_sweep_20 : WP (MX1_sweep g) Q (20, [l0, l1, some (.int a)], st, w, k, n) = WP (MX1_sweep g) Q (21, [l0, l1, some (.int a)], .int a :: st, w, k, n) := iln_e rfl (dt_q dX1_sweep_0_D 12 rfl) rfl
theorem eX1_sweep_21 : WP (MX1_sweep g) Q (21, [l0, l1, l2], st, w, k, n) = WP (MX1_sweep g) Q (22, [l0, l1, l2], .null :: st, w, k, n) := acn_e rfl (dt_q dX1_sweep_0_D 13 rfl)
theorem eX1_sweep_22N : WP (MX1_sweep g) Q (22, [l0, l1, l2], .null :: .int a :: .ref p :: st, w, k, n) = gq (w p) fun t N f => vp_in a N ∧ (t = 4 ∨ t = 5) ∧ WP (MX1_sweep g) Q (23, [l0, l1, l2], st, upw w p (.inl (t, N, .inr (.inr (.inr (.inr (va_up f a.toNatClampNeg none)))))), k, n) := aastN_e rfl (dt_q dX1_sweep_0_D 14 rfl)
theorem eX1_sweep_22R : WP (MX1_sweep g) Q (22, [l0, l1, l2], .ref q :: .int a :: .ref p :: st, w, k, n) = gq (w p) fun t N f => vp_in a N ∧ ((t = 4 ∧ go (w q) 4 fun _ => True) ∨ (t = 5 ∧ gl (w q) 0 fun _ _ => True)) ∧ WP (MX1_sweep g) Q (23, [l0, l1, l2], st, upw w p (.inl (t, N, .inr (.inr (.inr (.inr (va_up f a.toNatClampNeg (some q))))))), k, n) := aastR_e rfl (dt_q dX1_sweep_0_D 14 rfl)
theorem eX1_sweep_23 : WP (MX1_sweep g) Q (23, [l0, l1, some (.int a)], st, w, k, n) = WP (MX1_sweep g) Q (26, [l0, nl l1, some (.int (a + 1))], st, w, k, n) := Eq.trans (iinc_e (M := (MX1_sweep g)) (L := [l0, l1, some (.int a)]) (d := 1) rfl (dt_q dX1_sweep_0_D 15 rfl) (by decide) rfl) rfl
theorem eX1_sweep_26 : WP (MX1_sweep g) Q (26, [l0, l1, l2], st, w, k, n) = WP (MX1_sweep g) Q (7, [l0, l1, l2], st, w, k, n) := goto_e rfl (dt_q dX1_sweep_0_D 16 rfl) (by decide)
theorem eX1_sweep_29 : WP (MX1_sweep g) Q (29, [some (.ref p), l1, l2], st, w, k, n) = WP (MX1_sweep g) Q (30, [some (.ref p), l1, l2], .ref p :: st, w, k, n) := alnR_e rfl (dt_q dX1_sweep_0_D 17 rfl) rfl
theorem eX1_sweep_29N : WP (MX1_sweep g) Q (29, [some .null, l1, l2], st, w, k, n) = WP (MX1_sweep g) Q (30, [some .null, l1, l2], .null :: st, w, k, n) := alnN_e rfl (dt_q dX1_sweep_0_D 17 rfl) rfl
theorem eX1_sweep_30 : WP (MX1_sweep g) Q (30, [l0, l1, l2], st, w, k, n) = WP (MX1_sweep g) Q (31, [l0, l1, l2], .int 0 :: st, w, k, n) := ic_0 rfl (dt_q dX1_sweep_0_D 18 rfl)
theorem eX1_sweep_31 : WP (MX1_sweep g) Q (31, [l0, l1, l2], v :: .ref p :: st, w, k, n) = go (w p) 5 fun fs => 3 < fs.length ∧ (narrow (.int) v = v ∧ fits (.int) v = true) ∧ WP (MX1_sweep g) Q (34, [l0, l1, l2], st, upw w p (.inr (5, fs.set 3 v)), k, n) := put_e (q := (RX1, TX1, 7)) rfl (dt_q dX1_sweep_0_D 19 rfl) rfl rfl (tyX1_ok 3 (by decide)) (Or.inl rfl)
theorem eX1_sweep_34 : WP (MX1_sweep g) Q (34, [l0, some (.int a), l2], st, w, k, n) = WP (MX1_sweep g) Q (35, [l0, some (.int a), l2], .int a :: st, w, k, n) := iln_e rfl (dt_q dX1_sweep_0_D 20 rfl) rfl
theorem eX1_sweep_35 : WP (MX1_sweep g) Q (35, [l0, l1, l2], [.int a], w, k, n) = (k ≤ 0 ∧ n ≤ 0 ∧ Q (.inl (some (.int a))) w) := iretI_e rfl (dt_q dX1_sweep_0_D 21 rfl) rfl
end
theorem vMX1_sweep {l : Launch} (hl : l.stackTraces = false) (G : GT) : vM l G (MX1_sweep (gg G)) := vM_k RX1 cX1_sweep rfl rfl (all_c (vF_RX1_22) (all_c (vF_RX1_19) (all_n))) all_n all_n all_n all_n (fun h => absurd rfl h) all_n all_n all_n (fun h => absurd rfl h) rfl all_n
theorem okX1_sweep {l : Launch} (hl : l.stackTraces = false) {G : GT} : ∀ (args : List Value) (w : Hw) (S : Ot → Hw → Prop), spOf (MX1_sweep (gg G)) args w S → CX l G yX1_sweep (.code yX1_sweep cX1_sweep 3 (some .int)) 1 0 0 args w S := CX_sp (M := MX1_sweep (gg G)) (y := yX1_sweep) hl (by decide) rfl (vMX1_sweep hl G) (fun h => by cases h) rfl
abbrev dX1_pile_0_T : List (Nat × Instr × Nat) := [(0, .iload_n 1, 1), (1, .invokestatic 35, 3), (4, .iload_n 2, 1), (5, .iconst 5, 1), (6, .invokestatic 48, 3), (9, .aload_n 0, 1), (10, .aload_n 0, 1), (11, .getfield 9, 3), (14, .iload_n 1, 1), (15, .laload, 1), (16, .iload_n 2, 1), (17, .invokevirtual 201, 3), (20, .ireturn, 1)]
theorem dX1_pile_0_D : dtc cX1_pile dX1_pile_0_T = true := by decide +kernel
def MX1_pile (g : RO) : MT := ((RX1, cX1_pile, 3, 7, 2, 12, false, some .int), [(9, 5, 0)], [], [], [], [], 0, [(35, 0, 1, 0, 6, (fun _ _ => 1), (fun _ _ => 6), yX1_needNumber, spOf (MX1_needNumber g)), (48, 0, 2, 0, 6, (fun _ _ => 1), (fun _ _ => 6), yX1_needChoice, spOf (MX1_needChoice g)), (201, 2, 3, 5, 4, (fun _ _ => 0), (fun _ _ => 0), yX1_pileCount, spOf (MX1_pileCount g))], [], [], 0, [], [], g)
section
variable {g : RO} {Q : Ot → Hw → Prop} {st : List Value} {w : Hw} {k n p q : Nat} {a b : Int32} {x y : Int64} {u v : Value} {l0 l1 l2 : Option Value}
theorem eX1_pile_0 : WP (MX1_pile g) Q (0, [l0, some (.int a), l2], st, w, k, n) = WP (MX1_pile g) Q (1, [l0, some (.int a), l2], .int a :: st, w, k, n) := iln_e rfl (dt_q dX1_pile_0_D 0 rfl) rfl
theorem eX1_pile_1 {z0 : Int32} : WP (MX1_pile g) Q (1, [l0, l1, l2], .int z0 :: st, w, k, n) = (wt st ≤ 8 ∧ k + 1 ≤ 2 ∧ n + 6 ≤ 12 ∧ WP (MX1_needNumber g) (kx (fun v w' => WP (MX1_pile g) Q (4, [l0, l1, l2], v.toList ++ st, w', k + 1, n + 6)) (fun E w' => Q (.inr E) w')) (0, [some (.int z0)], [], w, 0, 0)) := csS0 (M := (MX1_pile g)) (mc := (fun _ _ => 1)) (ms := (fun _ _ => 6)) (As := [.int z0]) (rest := st) (MX1_needNumber g) rfl rfl rfl (dt_q dX1_pile_0_D 1 rfl) rfl rfl rfl rfl rfl rfl rfl
theorem eX1_pile_4 : WP (MX1_pile g) Q (4, [l0, l1, some (.int a)], st, w, k, n) = WP (MX1_pile g) Q (5, [l0, l1, some (.int a)], .int a :: st, w, k, n) := iln_e rfl (dt_q dX1_pile_0_D 2 rfl) rfl
theorem eX1_pile_5 : WP (MX1_pile g) Q (5, [l0, l1, l2], st, w, k, n) = WP (MX1_pile g) Q (6, [l0, l1, l2], .int 5 :: st, w, k, n) := ic_5 rfl (dt_q dX1_pile_0_D 3 rfl)
theorem eX1_pile_6 {z0 : Int32} {z1 : Int32} : WP (MX1_pile g) Q (6, [l0, l1, l2], .int z1 :: .int z0 :: st, w, k, n) = (wt st ≤ 8 ∧ k + 1 ≤ 2 ∧ n + 6 ≤ 12 ∧ WP (MX1_needChoice g) (kx (fun v w' => WP (MX1_pile g) Q (9, [l0, l1, l2], v.toList ++ st, w', k + 1, n + 6)) (fun E w' => Q (.inr E) w')) (0, [some (.int z0), some (.int z1)], [], w, 0, 0)) := csS0 (M := (MX1_pile g)) (mc := (fun _ _ => 1)) (ms := (fun _ _ => 6)) (As := [.int z0, .int z1]) (rest := st) (MX1_needChoice g) rfl rfl rfl (dt_q dX1_pile_0_D 4 rfl) rfl rfl rfl rfl rfl rfl rfl
theorem eX1_pile_9 : WP (MX1_pile g) Q (9, [some (.ref p), l1, l2], st, w, k, n) = WP (MX1_pile g) Q (10, [some (.ref p), l1, l2], .ref p :: st, w, k, n) := alnR_e rfl (dt_q dX1_pile_0_D 5 rfl) rfl
theorem eX1_pile_9N : WP (MX1_pile g) Q (9, [some .null, l1, l2], st, w, k, n) = WP (MX1_pile g) Q (10, [some .null, l1, l2], .null :: st, w, k, n) := alnN_e rfl (dt_q dX1_pile_0_D 5 rfl) rfl
theorem eX1_pile_10 : WP (MX1_pile g) Q (10, [some (.ref p), l1, l2], st, w, k, n) = WP (MX1_pile g) Q (11, [some (.ref p), l1, l2], .ref p :: st, w, k, n) := alnR_e rfl (dt_q dX1_pile_0_D 6 rfl) rfl
theorem eX1_pile_10N : WP (MX1_pile g) Q (10, [some .null, l1, l2], st, w, k, n) = WP (MX1_pile g) Q (11, [some .null, l1, l2], .null :: st, w, k, n) := alnN_e rfl (dt_q dX1_pile_0_D 6 rfl) rfl
theorem eX1_pile_11 : WP (MX1_pile g) Q (11, [l0, l1, l2], .ref p :: st, w, k, n) = go (rd g w p) 5 fun fs => ∃ v, fs[0]? = some v ∧ WP (MX1_pile g) Q (14, [l0, l1, l2], v :: st, w, k, n) := get_e rfl (dt_q dX1_pile_0_D 7 rfl) rfl
theorem eX1_pile_14 : WP (MX1_pile g) Q (14, [l0, some (.int a), l2], st, w, k, n) = WP (MX1_pile g) Q (15, [l0, some (.int a), l2], .int a :: st, w, k, n) := iln_e rfl (dt_q dX1_pile_0_D 8 rfl) rfl
theorem eX1_pile_15 : WP (MX1_pile g) Q (15, [l0, l1, l2], .int a :: .ref p :: st, w, k, n) = gl (rd g w p) 0 fun N f => vp_in a N ∧ WP (MX1_pile g) Q (16, [l0, l1, l2], .long (f a.toNatClampNeg) :: st, w, k, n) := laload_e rfl (dt_q dX1_pile_0_D 9 rfl)
theorem eX1_pile_16 : WP (MX1_pile g) Q (16, [l0, l1, some (.int a)], st, w, k, n) = WP (MX1_pile g) Q (17, [l0, l1, some (.int a)], .int a :: st, w, k, n) := iln_e rfl (dt_q dX1_pile_0_D 10 rfl) rfl
theorem eX1_pile_17 {z0 : Int64} {z1 : Int32} : WP (MX1_pile g) Q (17, [l0, l1, l2], .int z1 :: .long z0 :: .ref p :: st, w, k, n) = (go (rd g w p) 5 (fun _ => True) ∧ wt st ≤ 8 ∧ k + 0 ≤ 2 ∧ n + 0 ≤ 12 ∧ WP (MX1_pileCount g) (kx (fun v w' => WP (MX1_pile g) Q (20, [l0, l1, l2], v.toList ++ st, w', k + 0, n + 0)) (fun E w' => Q (.inr E) w')) (0, [some (.ref p), some (.long z0), none, some (.int z1), none, none, none], [], w, 0, 0)) := csV0 (M := (MX1_pile g)) (mc := (fun _ _ => 0)) (ms := (fun _ _ => 0)) (As := [.long z0, .int z1]) (rest := st) (MX1_pileCount g) rfl rfl rfl (dt_q dX1_pile_0_D 11 rfl) rfl rfl rfl rfl rfl rfl
theorem eX1_pile_20 : WP (MX1_pile g) Q (20, [l0, l1, l2], [.int a], w, k, n) = (k ≤ 2 ∧ n ≤ 12 ∧ Q (.inl (some (.int a))) w) := iretI_e rfl (dt_q dX1_pile_0_D 12 rfl) rfl
end
theorem vMX1_pile {l : Launch} (hl : l.stackTraces = false) (G : GT) : vM l G (MX1_pile (gg G)) := vM_k RX1 cX1_pile rfl rfl (all_c (vF_RX1_9) (all_n)) all_n all_n all_n all_n (fun h => absurd rfl h) (all_c (kc_116 hl wk_353) (all_c (kc_117 hl wk_440) (all_c (kc_115 hl wk_323) (all_n)))) all_n all_n (fun h => absurd rfl h) rfl all_n
theorem okX1_pile {l : Launch} (hl : l.stackTraces = false) {G : GT} : ∀ (args : List Value) (w : Hw) (S : Ot → Hw → Prop), spOf (MX1_pile (gg G)) args w S → CX l G yX1_pile (.code yX1_pile cX1_pile 3 (some .int)) 7 2 12 args w S := CX_sp (M := MX1_pile (gg G)) (y := yX1_pile) hl (by decide) rfl (vMX1_pile hl G) (fun h => by cases h) rfl
abbrev dX1_house_0_T : List (Nat × Instr × Nat) := [(0, .iload_n 1, 1), (1, .iconst 4, 1), (2, .invokestatic 48, 3), (5, .aload_n 0, 1), (6, .iload_n 1, 1), (7, .invokevirtual 205, 3), (10, .ireturn, 1)]
theorem dX1_house_0_D : dtc cX1_house dX1_house_0_T = true := by decide +kernel
def MX1_house (g : RO) : MT := ((RX1, cX1_house, 2, 7, 1, 6, false, some .int), [], [], [], [], [], 0, [(48, 0, 2, 0, 6, (fun _ _ => 1), (fun _ _ => 6), yX1_needChoice, spOf (MX1_needChoice g)), (205, 2, 2, 5, 3, (fun _ _ => 0), (fun _ _ => 0), yX1_houseCount, spOf (MX1_houseCount g))], [], [], 0, [], [], g)
section
variable {g : RO} {Q : Ot → Hw → Prop} {st : List Value} {w : Hw} {k n p q : Nat} {a b : Int32} {x y : Int64} {u v : Value} {l0 l1 : Option Value}
theorem eX1_house_0 : WP (MX1_house g) Q (0, [l0, some (.int a)], st, w, k, n) = WP (MX1_house g) Q (1, [l0, some (.int a)], .int a :: st, w, k, n) := iln_e rfl (dt_q dX1_house_0_D 0 rfl) rfl
theorem eX1_house_1 : WP (MX1_house g) Q (1, [l0, l1], st, w, k, n) = WP (MX1_house g) Q (2, [l0, l1], .int 4 :: st, w, k, n) := ic_4 rfl (dt_q dX1_house_0_D 1 rfl)
theorem eX1_house_2 {z0 : Int32} {z1 : Int32} : WP (MX1_house g) Q (2, [l0, l1], .int z1 :: .int z0 :: st, w, k, n) = (wt st ≤ 8 ∧ k + 1 ≤ 1 ∧ n + 6 ≤ 6 ∧ WP (MX1_needChoice g) (kx (fun v w' => WP (MX1_house g) Q (5, [l0, l1], v.toList ++ st, w', k + 1, n + 6)) (fun E w' => Q (.inr E) w')) (0, [some (.int z0), some (.int z1)], [], w, 0, 0)) := csS0 (M := (MX1_house g)) (mc := (fun _ _ => 1)) (ms := (fun _ _ => 6)) (As := [.int z0, .int z1]) (rest := st) (MX1_needChoice g) rfl rfl rfl (dt_q dX1_house_0_D 2 rfl) rfl rfl rfl rfl rfl rfl rfl
theorem eX1_house_5 : WP (MX1_house g) Q (5, [some (.ref p), l1], st, w, k, n) = WP (MX1_house g) Q (6, [some (.ref p), l1], .ref p :: st, w, k, n) := alnR_e rfl (dt_q dX1_house_0_D 3 rfl) rfl
theorem eX1_house_5N : WP (MX1_house g) Q (5, [some .null, l1], st, w, k, n) = WP (MX1_house g) Q (6, [some .null, l1], .null :: st, w, k, n) := alnN_e rfl (dt_q dX1_house_0_D 3 rfl) rfl
theorem eX1_house_6 : WP (MX1_house g) Q (6, [l0, some (.int a)], st, w, k, n) = WP (MX1_house g) Q (7, [l0, some (.int a)], .int a :: st, w, k, n) := iln_e rfl (dt_q dX1_house_0_D 4 rfl) rfl
theorem eX1_house_7 {z0 : Int32} : WP (MX1_house g) Q (7, [l0, l1], .int z0 :: .ref p :: st, w, k, n) = (go (rd g w p) 5 (fun _ => True) ∧ wt st ≤ 8 ∧ k + 0 ≤ 1 ∧ n + 0 ≤ 6 ∧ WP (MX1_houseCount g) (kx (fun v w' => WP (MX1_house g) Q (10, [l0, l1], v.toList ++ st, w', k + 0, n + 0)) (fun E w' => Q (.inr E) w')) (0, [some (.ref p), some (.int z0)], [], w, 0, 0)) := csV0 (M := (MX1_house g)) (mc := (fun _ _ => 0)) (ms := (fun _ _ => 0)) (As := [.int z0]) (rest := st) (MX1_houseCount g) rfl rfl rfl (dt_q dX1_house_0_D 5 rfl) rfl rfl rfl rfl rfl rfl
theorem eX1_house_10 : WP (MX1_house g) Q (10, [l0, l1], [.int a], w, k, n) = (k ≤ 1 ∧ n ≤ 6 ∧ Q (.inl (some (.int a))) w) := iretI_e rfl (dt_q dX1_house_0_D 6 rfl) rfl
end
theorem vMX1_house {l : Launch} (hl : l.stackTraces = false) (G : GT) : vM l G (MX1_house (gg G)) := vM_k RX1 cX1_house rfl rfl all_n all_n all_n all_n all_n (fun h => absurd rfl h) (all_c (kc_117 hl wk_440) (all_c (kc_105 hl wk_253) (all_n))) all_n all_n (fun h => absurd rfl h) rfl all_n
theorem okX1_house {l : Launch} (hl : l.stackTraces = false) {G : GT} : ∀ (args : List Value) (w : Hw) (S : Ot → Hw → Prop), spOf (MX1_house (gg G)) args w S → CX l G yX1_house (.code yX1_house cX1_house 2 (some .int)) 7 1 6 args w S := CX_sp (M := MX1_house (gg G)) (y := yX1_house) hl (by decide) rfl (vMX1_house hl G) (fun h => by cases h) rfl
end
/-! 66.class18.lean.txt -/
section
abbrev dX1_knock_0_T : List (Nat × Instr × Nat) := [(0, .aload_n 0, 1), (1, .dup, 1), (2, .getfield 29, 3), (5, .iconst 1, 1), (6, .iadd, 1), (7, .putfield 29, 3), (10, .aload_n 0, 1), (11, .getfield 29, 3), (14, .ireturn, 1)]
theorem dX1_knock_0_D : dtc cX1_knock dX1_knock_0_T = true := by decide +kernel
def MX1_knock (g : RO) : MT := ((RX1, cX1_knock, 1, 1, 0, 0, false, some .int), [(29, 5, 5)], [], [], [], [], 0, [], [], [], 0, [], [], g)
section
variable {g : RO} {Q : Ot → Hw → Prop} {st : List Value} {w : Hw} {k n p q : Nat} {a b : Int32} {x y : Int64} {u v : Value} {l0 : Option Value}
theorem eX1_knock_0 : WP (MX1_knock g) Q (0, [some (.ref p)], st, w, k, n) = WP (MX1_knock g) Q (1, [some (.ref p)], .ref p :: st, w, k, n) := alnR_e rfl (dt_q dX1_knock_0_D 0 rfl) rfl
theorem eX1_knock_0N : WP (MX1_knock g) Q (0, [some .null], st, w, k, n) = WP (MX1_knock g) Q (1, [some .null], .null :: st, w, k, n) := alnN_e rfl (dt_q dX1_knock_0_D 0 rfl) rfl
theorem eX1_knock_1 : WP (MX1_knock g) Q (1, [l0], .int a :: st, w, k, n) = WP (MX1_knock g) Q (2, [l0], .int a :: .int a :: st, w, k, n) := dupI_e rfl (dt_q dX1_knock_0_D 1 rfl)
theorem eX1_knock_1R : WP (MX1_knock g) Q (1, [l0], .ref p :: st, w, k, n) = WP (MX1_knock g) Q (2, [l0], .ref p :: .ref p :: st, w, k, n) := dupR_e rfl (dt_q dX1_knock_0_D 1 rfl)
theorem eX1_knock_2 : WP (MX1_knock g) Q (2, [l0], .ref p :: st, w, k, n) = go (rd g w p) 5 fun fs => ∃ v, fs[5]? = some v ∧ WP (MX1_knock g) Q (5, [l0], v :: st, w, k, n) := get_e rfl (dt_q dX1_knock_0_D 2 rfl) rfl
theorem eX1_knock_5 : WP (MX1_knock g) Q (5, [l0], st, w, k, n) = WP (MX1_knock g) Q (6, [l0], .int 1 :: st, w, k, n) := ic_1 rfl (dt_q dX1_knock_0_D 3 rfl)
theorem eX1_knock_6 : WP (MX1_knock g) Q (6, [l0], .int b :: .int a :: st, w, k, n) = WP (MX1_knock g) Q (7, [l0], .int (a + b) :: st, w, k, n) := iadd_e rfl (dt_q dX1_knock_0_D 4 rfl)
theorem eX1_knock_7 : WP (MX1_knock g) Q (7, [l0], v :: .ref p :: st, w, k, n) = go (w p) 5 fun fs => 5 < fs.length ∧ (narrow (.int) v = v ∧ fits (.int) v = true) ∧ WP (MX1_knock g) Q (10, [l0], st, upw w p (.inr (5, fs.set 5 v)), k, n) := put_e (q := (RX1, TX1, 7)) rfl (dt_q dX1_knock_0_D 5 rfl) rfl rfl (tyX1_ok 5 (by decide)) (Or.inl rfl)
theorem eX1_knock_10 : WP (MX1_knock g) Q (10, [some (.ref p)], st, w, k, n) = WP (MX1_knock g) Q (11, [some (.ref p)], .ref p :: st, w, k, n) := alnR_e rfl (dt_q dX1_knock_0_D 6 rfl) rfl
theorem eX1_knock_10N : WP (MX1_knock g) Q (10, [some .null], st, w, k, n) = WP (MX1_knock g) Q (11, [some .null], .null :: st, w, k, n) := alnN_e rfl (dt_q dX1_knock_0_D 6 rfl) rfl
theorem eX1_knock_11 : WP (MX1_knock g) Q (11, [l0], .ref p :: st, w, k, n) = go (rd g w p) 5 fun fs => ∃ v, fs[5]? = some v ∧ WP (MX1_knock g) Q (14, [l0], v :: st, w, k, n) := get_e rfl (dt_q dX1_knock_0_D 7 rfl) rfl
theorem eX1_knock_14 : WP (MX1_knock g) Q (14, [l0], [.int a], w, k, n) = (k ≤ 0 ∧ n ≤ 0 ∧ Q (.inl (some (.int a))) w) := iretI_e rfl (dt_q dX1_knock_0_D 8 rfl) rfl
end
theorem vMX1_knock {l : Launch} (hl : l.stackTraces = false) (G : GT) : vM l G (MX1_knock (gg G)) := vM_k RX1 cX1_knock rfl rfl (all_c (vF_RX1_29) (all_n)) all_n all_n all_n all_n (fun h => absurd rfl h) all_n all_n all_n (fun h => absurd rfl h) rfl all_n
theorem okX1_knock {l : Launch} (hl : l.stackTraces = false) {G : GT} : ∀ (args : List Value) (w : Hw) (S : Ot → Hw → Prop), spOf (MX1_knock (gg G)) args w S → CX l G yX1_knock (.code yX1_knock cX1_knock 1 (some .int)) 1 0 0 args w S := CX_sp (M := MX1_knock (gg G)) (y := yX1_knock) hl (by decide) rfl (vMX1_knock hl G) (fun h => by cases h) rfl
abbrev dX1_isSound_0_T : List (Nat × Instr × Nat) := [(0, .iconst 0, 1), (1, .istore_n 1, 1), (2, .iload_n 1, 1), (3, .bipush 6, 2), (5, .if_icmp .ge 38, 3), (8, .aload_n 0, 1), (9, .getfield 15, 3), (12, .iload_n 1, 1), (13, .aaload, 1), (14, .astore_n 2, 1), (15, .aload_n 2, 1), (16, .ifnull 21, 3), (19, .aload_n 0, 1), (20, .aload_n 2, 1), (21, .invokevirtual 208, 3), (24, .ifCond .eq 11, 3), (27, .aload_n 0, 1), (28, .aload_n 2, 1), (29, .invokevirtual 211, 3), (32, .ifCond .ne 5, 3), (35, .iconst 0, 1), (36, .ireturn, 1), (37, .iinc 1 1, 3), (40, .goto (-38), 3), (43, .aload_n 0, 1), (44, .invokevirtual 214, 3), (47, .ireturn, 1)]
theorem dX1_isSound_0_D : dtc cX1_isSound dX1_isSound_0_T = true := by decide +kernel
def MX1_isSound (g : RO) : MT := ((RX1, cX1_isSound, 3, 6, 24, 96, false, some .boolean), [(15, 5, 1)], [], [], [], [], 0, [(208, 2, 2, 5, 5, (fun _ _ => 4), (fun _ _ => 16), yX1_isSoundAlone, spOf (MX1_isSoundAlone g)), (211, 2, 2, 5, 2, (fun _ _ => 0), (fun _ _ => 0), yX1_isSameToAndFro, spOf (MX1_isSameToAndFro g)), (214, 2, 1, 5, 3, (fun _ _ => 0), (fun _ _ => 0), yX1_isEachFoundInPile, spOf (MX1_isEachFoundInPile g))], [], [], 0, [], [], g)
section
variable {g : RO} {Q : Ot → Hw → Prop} {st : List Value} {w : Hw} {k n p q : Nat} {a b : Int32} {x y : Int64} {u v : Value} {l0 l1 l2 : Option Value}
theorem eX1_isSound_0 : WP (MX1_isSound g) Q (0, [l0, l1, l2], st, w, k, n) = WP (MX1_isSound g) Q (1, [l0, l1, l2], .int 0 :: st, w, k, n) := ic_0 rfl (dt_q dX1_isSound_0_D 0 rfl)
theorem eX1_isSound_1 : WP (MX1_isSound g) Q (1, [l0, l1, l2], .int a :: st, w, k, n) = WP (MX1_isSound g) Q (2, [nl l0, some (.int a), l2], st, w, k, n) := isn_e rfl (dt_q dX1_isSound_0_D 1 rfl) rfl rfl
theorem eX1_isSound_2 : WP (MX1_isSound g) Q (2, [l0, some (.int a), l2], st, w, k, n) = WP (MX1_isSound g) Q (3, [l0, some (.int a), l2], .int a :: st, w, k, n) := iln_e rfl (dt_q dX1_isSound_0_D 2 rfl) rfl
theorem eX1_isSound_3 : WP (MX1_isSound g) Q (3, [l0, l1, l2], st, w, k, n) = WP (MX1_isSound g) Q (5, [l0, l1, l2], .int 6 :: st, w, k, n) := bipush_e rfl (dt_q dX1_isSound_0_D 3 rfl) (by decide)
theorem eX1_isSound_5 : WP (MX1_isSound g) Q (5, [l0, l1, l2], .int b :: .int a :: st, w, k, n) = if b ≤ a then WP (MX1_isSound g) Q (43, [l0, l1, l2], st, w, k, n) else WP (MX1_isSound g) Q (8, [l0, l1, l2], st, w, k, n) := icm_e (b ≤ a) rfl (dt_q dX1_isSound_0_D 4 rfl) rfl (by decide)
theorem eX1_isSound_8 : WP (MX1_isSound g) Q (8, [some (.ref p), l1, l2], st, w, k, n) = WP (MX1_isSound g) Q (9, [some (.ref p), l1, l2], .ref p :: st, w, k, n) := alnR_e rfl (dt_q dX1_isSound_0_D 5 rfl) rfl
theorem eX1_isSound_8N : WP (MX1_isSound g) Q (8, [some .null, l1, l2], st, w, k, n) = WP (MX1_isSound g) Q (9, [some .null, l1, l2], .null :: st, w, k, n) := alnN_e rfl (dt_q dX1_isSound_0_D 5 rfl) rfl
theorem eX1_isSound_9 : WP (MX1_isSound g) Q (9, [l0, l1, l2], .ref p :: st, w, k, n) = go (rd g w p) 5 fun fs => ∃ v, fs[1]? = some v ∧ WP (MX1_isSound g) Q (12, [l0, l1, l2], v :: st, w, k, n) := get_e rfl (dt_q dX1_isSound_0_D 6 rfl) rfl
theorem eX1_isSound_12 : WP (MX1_isSound g) Q (12, [l0, some (.int a), l2], st, w, k, n) = WP (MX1_isSound g) Q (13, [l0, some (.int a), l2], .int a :: st, w, k, n) := iln_e rfl (dt_q dX1_isSound_0_D 7 rfl) rfl
theorem eX1_isSound_13 : WP (MX1_isSound g) Q (13, [l0, l1, l2], .int a :: .ref p :: st, w, k, n) = gq (rd g w p) fun t N f => (t = 4 ∨ t = 5) ∧ vp_in a N ∧ WP (MX1_isSound g) Q (14, [l0, l1, l2], va_rf (f a.toNatClampNeg) :: st, w, k, n) := aaload_e rfl (dt_q dX1_isSound_0_D 8 rfl)
theorem eX1_isSound_14 : WP (MX1_isSound g) Q (14, [l0, l1, l2], .ref p :: st, w, k, n) = WP (MX1_isSound g) Q (15, [l0, nl l1, some (.ref p)], st, w, k, n) := asnR_e rfl (dt_q dX1_isSound_0_D 9 rfl) rfl rfl
theorem eX1_isSound_14N : WP (MX1_isSound g) Q (14, [l0, l1, l2], .null :: st, w, k, n) = WP (MX1_isSound g) Q (15, [l0, nl l1, some (.null)], st, w, k, n) := asnN_e rfl (dt_q dX1_isSound_0_D 9 rfl) rfl rfl
theorem eX1_isSound_15 : WP (MX1_isSound g) Q (15, [l0, l1, some (.ref p)], st, w, k, n) = WP (MX1_isSound g) Q (16, [l0, l1, some (.ref p)], .ref p :: st, w, k, n) := alnR_e rfl (dt_q dX1_isSound_0_D 10 rfl) rfl
theorem eX1_isSound_15N : WP (MX1_isSound g) Q (15, [l0, l1, some .null], st, w, k, n) = WP (MX1_isSound g) Q (16, [l0, l1, some .null], .null :: st, w, k, n) := alnN_e rfl (dt_q dX1_isSound_0_D 10 rfl) rfl
theorem eX1_isSound_16R : WP (MX1_isSound g) Q (16, [l0, l1, l2], .ref p :: st, w, k, n) = WP (MX1_isSound g) Q (19, [l0, l1, l2], st, w, k, n) := ifnullR_e rfl (dt_q dX1_isSound_0_D 11 rfl) (tgt := 37) (by decide)
theorem eX1_isSound_16N : WP (MX1_isSound g) Q (16, [l0, l1, l2], .null :: st, w, k, n) = WP (MX1_isSound g) Q (37, [l0, l1, l2], st, w, k, n) := ifnullN_e rfl (dt_q dX1_isSound_0_D 11 rfl) (tgt := 37) (by decide)
theorem eX1_isSound_19 : WP (MX1_isSound g) Q (19, [some (.ref p), l1, l2], st, w, k, n) = WP (MX1_isSound g) Q (20, [some (.ref p), l1, l2], .ref p :: st, w, k, n) := alnR_e rfl (dt_q dX1_isSound_0_D 12 rfl) rfl
theorem eX1_isSound_19N : WP (MX1_isSound g) Q (19, [some .null, l1, l2], st, w, k, n) = WP (MX1_isSound g) Q (20, [some .null, l1, l2], .null :: st, w, k, n) := alnN_e rfl (dt_q dX1_isSound_0_D 12 rfl) rfl
theorem eX1_isSound_20 : WP (MX1_isSound g) Q (20, [l0, l1, some (.ref p)], st, w, k, n) = WP (MX1_isSound g) Q (21, [l0, l1, some (.ref p)], .ref p :: st, w, k, n) := alnR_e rfl (dt_q dX1_isSound_0_D 13 rfl) rfl
theorem eX1_isSound_20N : WP (MX1_isSound g) Q (20, [l0, l1, some .null], st, w, k, n) = WP (MX1_isSound g) Q (21, [l0, l1, some .null], .null :: st, w, k, n) := alnN_e rfl (dt_q dX1_isSound_0_D 13 rfl) rfl
theorem eX1_isSound_21R {z0 : Nat} : WP (MX1_isSound g) Q (21, [l0, l1, l2], .ref z0 :: .ref p :: st, w, k, n) = (go (rd g w p) 5 (fun _ => True) ∧ wt st ≤ 8 ∧ k + 4 ≤ 24 ∧ n + 16 ≤ 96 ∧ WP (MX1_isSoundAlone g) (kx (fun v w' => WP (MX1_isSound g) Q (24, [l0, l1, l2], v.toList ++ st, w', k + 4, n + 16)) (fun E w' => Q (.inr E) w')) (0, [some (.ref p), some (.ref z0)], [], w, 0, 0)) := csV0 (M := (MX1_isSound g)) (mc := (fun _ _ => 4)) (ms := (fun _ _ => 16)) (As := [.ref z0]) (rest := st) (MX1_isSoundAlone g) rfl rfl rfl (dt_q dX1_isSound_0_D 14 rfl) rfl rfl rfl rfl rfl rfl
theorem eX1_isSound_21N  : WP (MX1_isSound g) Q (21, [l0, l1, l2], .null :: .ref p :: st, w, k, n) = (go (rd g w p) 5 (fun _ => True) ∧ wt st ≤ 8 ∧ k + 4 ≤ 24 ∧ n + 16 ≤ 96 ∧ WP (MX1_isSoundAlone g) (kx (fun v w' => WP (MX1_isSound g) Q (24, [l0, l1, l2], v.toList ++ st, w', k + 4, n + 16)) (fun E w' => Q (.inr E) w')) (0, [some (.ref p), some .null], [], w, 0, 0)) := csV0 (M := (MX1_isSound g)) (mc := (fun _ _ => 4)) (ms := (fun _ _ => 16)) (As := [.null]) (rest := st) (MX1_isSoundAlone g) rfl rfl rfl (dt_q dX1_isSound_0_D 14 rfl) rfl rfl rfl rfl rfl rfl
theorem eX1_isSound_24 : WP (MX1_isSound g) Q (24, [l0, l1, l2], .int a :: st, w, k, n) = if a = 0 then WP (MX1_isSound g) Q (35, [l0, l1, l2], st, w, k, n) else WP (MX1_isSound g) Q (27, [l0, l1, l2], st, w, k, n) := ifc_e (a = 0) rfl (dt_q dX1_isSound_0_D 15 rfl) rfl (by decide)
theorem eX1_isSound_27 : WP (MX1_isSound g) Q (27, [some (.ref p), l1, l2], st, w, k, n) = WP (MX1_isSound g) Q (28, [some (.ref p), l1, l2], .ref p :: st, w, k, n) := alnR_e rfl (dt_q dX1_isSound_0_D 16 rfl) rfl
theorem eX1_isSound_27N : WP (MX1_isSound g) Q (27, [some .null, l1, l2], st, w, k, n) = WP (MX1_isSound g) Q (28, [some .null, l1, l2], .null :: st, w, k, n) := alnN_e rfl (dt_q dX1_isSound_0_D 16 rfl) rfl
theorem eX1_isSound_28 : WP (MX1_isSound g) Q (28, [l0, l1, some (.ref p)], st, w, k, n) = WP (MX1_isSound g) Q (29, [l0, l1, some (.ref p)], .ref p :: st, w, k, n) := alnR_e rfl (dt_q dX1_isSound_0_D 17 rfl) rfl
theorem eX1_isSound_28N : WP (MX1_isSound g) Q (28, [l0, l1, some .null], st, w, k, n) = WP (MX1_isSound g) Q (29, [l0, l1, some .null], .null :: st, w, k, n) := alnN_e rfl (dt_q dX1_isSound_0_D 17 rfl) rfl
theorem eX1_isSound_29R {z0 : Nat} : WP (MX1_isSound g) Q (29, [l0, l1, l2], .ref z0 :: .ref p :: st, w, k, n) = (go (rd g w p) 5 (fun _ => True) ∧ wt st ≤ 8 ∧ k + 0 ≤ 24 ∧ n + 0 ≤ 96 ∧ WP (MX1_isSameToAndFro g) (kx (fun v w' => WP (MX1_isSound g) Q (32, [l0, l1, l2], v.toList ++ st, w', k + 0, n + 0)) (fun E w' => Q (.inr E) w')) (0, [some (.ref p), some (.ref z0), none, none], [], w, 0, 0)) := csV0 (M := (MX1_isSound g)) (mc := (fun _ _ => 0)) (ms := (fun _ _ => 0)) (As := [.ref z0]) (rest := st) (MX1_isSameToAndFro g) rfl rfl rfl (dt_q dX1_isSound_0_D 18 rfl) rfl rfl rfl rfl rfl rfl
theorem eX1_isSound_29N  : WP (MX1_isSound g) Q (29, [l0, l1, l2], .null :: .ref p :: st, w, k, n) = (go (rd g w p) 5 (fun _ => True) ∧ wt st ≤ 8 ∧ k + 0 ≤ 24 ∧ n + 0 ≤ 96 ∧ WP (MX1_isSameToAndFro g) (kx (fun v w' => WP (MX1_isSound g) Q (32, [l0, l1, l2], v.toList ++ st, w', k + 0, n + 0)) (fun E w' => Q (.inr E) w')) (0, [some (.ref p), some .null, none, none], [], w, 0, 0)) := csV0 (M := (MX1_isSound g)) (mc := (fun _ _ => 0)) (ms := (fun _ _ => 0)) (As := [.null]) (rest := st) (MX1_isSameToAndFro g) rfl rfl rfl (dt_q dX1_isSound_0_D 18 rfl) rfl rfl rfl rfl rfl rfl
theorem eX1_isSound_32 : WP (MX1_isSound g) Q (32, [l0, l1, l2], .int a :: st, w, k, n) = if a = 0 then WP (MX1_isSound g) Q (35, [l0, l1, l2], st, w, k, n) else WP (MX1_isSound g) Q (37, [l0, l1, l2], st, w, k, n) := ifcn_e (a = 0) rfl (dt_q dX1_isSound_0_D 19 rfl) rfl (by decide)
theorem eX1_isSound_35 : WP (MX1_isSound g) Q (35, [l0, l1, l2], st, w, k, n) = WP (MX1_isSound g) Q (36, [l0, l1, l2], .int 0 :: st, w, k, n) := ic_0 rfl (dt_q dX1_isSound_0_D 20 rfl)
theorem eX1_isSound_36 : WP (MX1_isSound g) Q (36, [l0, l1, l2], [.int a], w, k, n) = (narrow (.boolean) (.int a) = .int a ∧ k ≤ 24 ∧ n ≤ 96 ∧ Q (.inl (some (.int a))) w) := iret_e rfl (dt_q dX1_isSound_0_D 21 rfl) rfl
theorem eX1_isSound_37 : WP (MX1_isSound g) Q (37, [l0, some (.int a), l2], st, w, k, n) = WP (MX1_isSound g) Q (40, [nl l0, some (.int (a + 1)), l2], st, w, k, n) := Eq.trans (iinc_e (M := (MX1_isSound g)) (L := [l0, some (.int a), l2]) (d := 1) rfl (dt_q dX1_isSound_0_D 22 rfl) (by decide) rfl) rfl
theorem eX1_isSound_40 : WP (MX1_isSound g) Q (40, [l0, l1, l2], st, w, k, n) = WP (MX1_isSound g) Q (2, [l0, l1, l2], st, w, k, n) := goto_e rfl (dt_q dX1_isSound_0_D 23 rfl) (by decide)
theorem eX1_isSound_43 : WP (MX1_isSound g) Q (43, [some (.ref p), l1, l2], st, w, k, n) = WP (MX1_isSound g) Q (44, [some (.ref p), l1, l2], .ref p :: st, w, k, n) := alnR_e rfl (dt_q dX1_isSound_0_D 24 rfl) rfl
theorem eX1_isSound_43N : WP (MX1_isSound g) Q (43, [some .null, l1, l2], st, w, k, n) = WP (MX1_isSound g) Q (44, [some .null, l1, l2], .null :: st, w, k, n) := alnN_e rfl (dt_q dX1_isSound_0_D 24 rfl) rfl
theorem eX1_isSound_44  : WP (MX1_isSound g) Q (44, [l0, l1, l2], .ref p :: st, w, k, n) = (go (rd g w p) 5 (fun _ => True) ∧ wt st ≤ 8 ∧ k + 0 ≤ 24 ∧ n + 0 ≤ 96 ∧ WP (MX1_isEachFoundInPile g) (kx (fun v w' => WP (MX1_isSound g) Q (47, [l0, l1, l2], v.toList ++ st, w', k + 0, n + 0)) (fun E w' => Q (.inr E) w')) (0, [some (.ref p), none, none], [], w, 0, 0)) := csV0 (M := (MX1_isSound g)) (mc := (fun _ _ => 0)) (ms := (fun _ _ => 0)) (As := []) (rest := st) (MX1_isEachFoundInPile g) rfl rfl rfl (dt_q dX1_isSound_0_D 25 rfl) rfl rfl rfl rfl rfl rfl
theorem eX1_isSound_47 : WP (MX1_isSound g) Q (47, [l0, l1, l2], [.int a], w, k, n) = (narrow (.boolean) (.int a) = .int a ∧ k ≤ 24 ∧ n ≤ 96 ∧ Q (.inl (some (.int a))) w) := iret_e rfl (dt_q dX1_isSound_0_D 26 rfl) rfl
end
theorem wk_140 : (.code yX1_isSoundAlone cX1_isSoundAlone 2 (some .boolean) : Jvm.Cond) ∈ WS := WS_t1 82 rfl rfl
theorem wk_137 : (.methodLink RX1 208 yX1_isSoundAlone : Jvm.Cond) ∈ WS := WS_t1 79 rfl rfl
theorem wk_139 : (.instanceMethod yX1_isSoundAlone : Jvm.Cond) ∈ WS := WS_t1 81 rfl rfl
theorem wk_0 : (.selects RX1 yX1_isSoundAlone yX1_isSoundAlone : Jvm.Cond) ∈ WS := WS_at 0 (by decide +kernel) rfl
theorem wk_235 : (.code yX1_isSameToAndFro cX1_isSameToAndFro 4 (some .boolean) : Jvm.Cond) ∈ WS := WS_t1 177 rfl rfl
theorem wk_232 : (.methodLink RX1 211 yX1_isSameToAndFro : Jvm.Cond) ∈ WS := WS_t1 174 rfl rfl
theorem wk_234 : (.instanceMethod yX1_isSameToAndFro : Jvm.Cond) ∈ WS := WS_t1 176 rfl rfl
theorem wk_10 : (.selects RX1 yX1_isSameToAndFro yX1_isSameToAndFro : Jvm.Cond) ∈ WS := WS_at 10 (by decide +kernel) rfl
theorem wk_239 : (.code yX1_isEachFoundInPile cX1_isEachFoundInPile 3 (some .boolean) : Jvm.Cond) ∈ WS := WS_t1 181 rfl rfl
theorem wk_236 : (.methodLink RX1 214 yX1_isEachFoundInPile : Jvm.Cond) ∈ WS := WS_t1 178 rfl rfl
theorem wk_238 : (.instanceMethod yX1_isEachFoundInPile : Jvm.Cond) ∈ WS := WS_t1 180 rfl rfl
theorem wk_11 : (.selects RX1 yX1_isEachFoundInPile yX1_isEachFoundInPile : Jvm.Cond) ∈ WS := WS_at 11 (by decide +kernel) rfl
theorem kc_127 {l : Launch} (hl : l.stackTraces = false) {G : GT} {own : String} {i : Nat} (hw : Jvm.Cond.methodLink own i yX1_isSoundAlone ∈ WS) : vCal l G own i (2, 2, 5, 5, (fun _ _ => 4), (fun _ _ => 16), yX1_isSoundAlone, spOf (MX1_isSoundAlone (gg G))) := ⟨cX1_isSoundAlone, 2, some .boolean, fun y hy => by subst hy; exact ⟨by decide, ⟨_, wk_140, okX1_isSoundAlone hl, Or.inl ⟨Nat.ne_of_beq_eq_false rfl, rfl⟩⟩, wk_59, nc14, ⟨(by decide +kernel : (parseMethodDescriptor yX1_isSoundAlone.desc).map (fun d => d.parameters.length + 1) = some 2), hw, wk_139, wk_0, (RX1, TX1, 7), rfl, rfl⟩⟩⟩
theorem kc_128 {l : Launch} (hl : l.stackTraces = false) {G : GT} {own : String} {i : Nat} (hw : Jvm.Cond.methodLink own i yX1_isSameToAndFro ∈ WS) : vCal l G own i (2, 2, 5, 2, (fun _ _ => 0), (fun _ _ => 0), yX1_isSameToAndFro, spOf (MX1_isSameToAndFro (gg G))) := ⟨cX1_isSameToAndFro, 4, some .boolean, fun y hy => by subst hy; exact ⟨by decide, ⟨_, wk_235, okX1_isSameToAndFro hl, Or.inl ⟨Nat.ne_of_beq_eq_false rfl, rfl⟩⟩, wk_59, nc14, ⟨(by decide +kernel : (parseMethodDescriptor yX1_isSameToAndFro.desc).map (fun d => d.parameters.length + 1) = some 2), hw, wk_234, wk_10, (RX1, TX1, 7), rfl, rfl⟩⟩⟩
theorem kc_129 {l : Launch} (hl : l.stackTraces = false) {G : GT} {own : String} {i : Nat} (hw : Jvm.Cond.methodLink own i yX1_isEachFoundInPile ∈ WS) : vCal l G own i (2, 1, 5, 3, (fun _ _ => 0), (fun _ _ => 0), yX1_isEachFoundInPile, spOf (MX1_isEachFoundInPile (gg G))) := ⟨cX1_isEachFoundInPile, 3, some .boolean, fun y hy => by subst hy; exact ⟨by decide, ⟨_, wk_239, okX1_isEachFoundInPile hl, Or.inl ⟨Nat.ne_of_beq_eq_false rfl, rfl⟩⟩, wk_59, nc14, ⟨(by decide +kernel : (parseMethodDescriptor yX1_isEachFoundInPile.desc).map (fun d => d.parameters.length + 1) = some 1), hw, wk_238, wk_11, (RX1, TX1, 7), rfl, rfl⟩⟩⟩
theorem vMX1_isSound {l : Launch} (hl : l.stackTraces = false) (G : GT) : vM l G (MX1_isSound (gg G)) := vM_k RX1 cX1_isSound rfl rfl (all_c (vF_RX1_15) (all_n)) all_n all_n all_n all_n (fun h => absurd rfl h) (all_c (kc_127 hl wk_137) (all_c (kc_128 hl wk_232) (all_c (kc_129 hl wk_236) (all_n)))) all_n all_n (fun h => absurd rfl h) rfl all_n
theorem okX1_isSound {l : Launch} (hl : l.stackTraces = false) {G : GT} : ∀ (args : List Value) (w : Hw) (S : Ot → Hw → Prop), spOf (MX1_isSound (gg G)) args w S → CX l G yX1_isSound (.code yX1_isSound cX1_isSound 3 (some .boolean)) 6 24 96 args w S := CX_sp (M := MX1_isSound (gg G)) (y := yX1_isSound) hl (by decide) rfl (vMX1_isSound hl G) (fun h => by cases h) rfl
abbrev dX1_digest_0_T : List (Nat × Instr × Nat) := [(0, .aload_n 0, 1), (1, .ldc2_w 217, 3), (4, .invokevirtual 219, 3), (7, .lstore_n 1, 1), (8, .iconst 0, 1), (9, .istore_n 3, 1), (10, .iload_n 3, 1), (11, .bipush 8, 2), (13, .if_icmp .ge 21, 3), (16, .aload_n 0, 1), (17, .lload_n 1, 1), (18, .aload_n 0, 1), (19, .getfield 9, 3), (22, .iload_n 3, 1), (23, .laload, 1), (24, .invokevirtual 223, 3), (27, .lstore_n 1, 1), (28, .iinc 3 1, 3), (31, .goto (-21), 3), (34, .iconst 0, 1), (35, .istore_n 3, 1), (36, .iload_n 3, 1), (37, .bipush 6, 2), (39, .if_icmp .ge 21, 3), (42, .aload_n 0, 1), (43, .lload_n 1, 1), (44, .aload_n 0, 1), (45, .getfield 15, 3), (48, .iload_n 3, 1), (49, .aaload, 1), (50, .invokevirtual 227, 3), (53, .lstore_n 1, 1), (54, .iinc 3 1, 3), (57, .goto (-21), 3), (60, .aload_n 0, 1), (61, .lload_n 1, 1), (62, .invokevirtual 231, 3), (65, .lstore_n 1, 1), (66, .lload_n 1, 1), (67, .aload_n 0, 1)]
theorem dX1_digest_0_D : dtc cX1_digest dX1_digest_0_T = true := by decide +kernel
abbrev dX1_digest_68_T : List (Nat × Instr × Nat) := [(68, .invokevirtual 234, 3), (71, .invokestatic 130, 3), (74, .i2l, 1), (75, .invokestatic 237, 3), (78, .lreturn, 1)]
theorem dX1_digest_68_D : dtc cX1_digest dX1_digest_68_T = true := by decide +kernel
def MX1_digest (g : RO) : MT := ((RX1, cX1_digest, 4, 7, 24, 96, false, some .long), [(9, 5, 0), (15, 5, 1)], [], [], [(217, 7783)], [], 0, [(219, 2, 2, 5, 4, (fun _ _ => 0), (fun _ _ => 0), yX1_withHouse, spOf (MX1_withHouse g)), (223, 2, 3, 5, 5, (fun _ _ => 0), (fun _ _ => 0), yX1_withNumber, spOf (MX1_withNumber g)), (227, 2, 3, 5, 6, (fun _ _ => 0), (fun _ _ => 0), yX1_withCard, spOf (MX1_withCard g)), (231, 2, 2, 5, 5, (fun _ _ => 0), (fun _ _ => 0), yX1_withWhichAndPile, spOf (MX1_withWhichAndPile g)), (234, 2, 1, 5, 6, (fun _ _ => 24), (fun _ _ => 96), yX1_isSound, spOf (MX1_isSound g)), (130, 0, 1, 0, 1, (fun _ _ => 0), (fun _ _ => 0), yX1_asNumber, spOf (MX1_asNumber g)), (237, 0, 2, 0, 1, (fun _ _ => 0), (fun _ _ => 0), yX1_with, spOf (MX1_with g))], [], [], 0, [], [], g)
section
variable {g : RO} {Q : Ot → Hw → Prop} {st : List Value} {w : Hw} {k n p q : Nat} {a b : Int32} {x y : Int64} {u v : Value} {l0 l1 l2 l3 : Option Value}
theorem eX1_digest_0 : WP (MX1_digest g) Q (0, [some (.ref p), l1, l2, l3], st, w, k, n) = WP (MX1_digest g) Q (1, [some (.ref p), l1, l2, l3], .ref p :: st, w, k, n) := alnR_e rfl (dt_q dX1_digest_0_D 0 rfl) rfl
theorem eX1_digest_0N : WP (MX1_digest g) Q (0, [some .null, l1, l2, l3], st, w, k, n) = WP (MX1_digest g) Q (1, [some .null, l1, l2, l3], .null :: st, w, k, n) := alnN_e rfl (dt_q dX1_digest_0_D 0 rfl) rfl
theorem eX1_digest_1 : WP (MX1_digest g) Q (1, [l0, l1, l2, l3], st, w, k, n) = WP (MX1_digest g) Q (4, [l0, l1, l2, l3], .long 7783 :: st, w, k, n) := ldc2_e rfl (dt_q dX1_digest_0_D 1 rfl) rfl
theorem eX1_digest_4 {z0 : Int64} : WP (MX1_digest g) Q (4, [l0, l1, l2, l3], .long z0 :: .ref p :: st, w, k, n) = (go (rd g w p) 5 (fun _ => True) ∧ wt st ≤ 8 ∧ k + 0 ≤ 24 ∧ n + 0 ≤ 96 ∧ WP (MX1_withHouse g) (kx (fun v w' => WP (MX1_digest g) Q (7, [l0, l1, l2, l3], v.toList ++ st, w', k + 0, n + 0)) (fun E w' => Q (.inr E) w')) (0, [some (.ref p), some (.long z0), none, none, none, none], [], w, 0, 0)) := csV0 (M := (MX1_digest g)) (mc := (fun _ _ => 0)) (ms := (fun _ _ => 0)) (As := [.long z0]) (rest := st) (MX1_withHouse g) rfl rfl rfl (dt_q dX1_digest_0_D 2 rfl) rfl rfl rfl rfl rfl rfl
theorem eX1_digest_7 : WP (MX1_digest g) Q (7, [l0, l1, l2, l3], .long x :: st, w, k, n) = WP (MX1_digest g) Q (8, [nl l0, some (.long x), none, l3], st, w, k, n) := lsn_e rfl (dt_q dX1_digest_0_D 3 rfl) rfl rfl
theorem eX1_digest_8 : WP (MX1_digest g) Q (8, [l0, l1, l2, l3], st, w, k, n) = WP (MX1_digest g) Q (9, [l0, l1, l2, l3], .int 0 :: st, w, k, n) := ic_0 rfl (dt_q dX1_digest_0_D 4 rfl)
theorem eX1_digest_9 : WP (MX1_digest g) Q (9, [l0, l1, l2, l3], .int a :: st, w, k, n) = WP (MX1_digest g) Q (10, [l0, l1, nl l2, some (.int a)], st, w, k, n) := isn_e rfl (dt_q dX1_digest_0_D 5 rfl) rfl rfl
theorem eX1_digest_10 : WP (MX1_digest g) Q (10, [l0, l1, l2, some (.int a)], st, w, k, n) = WP (MX1_digest g) Q (11, [l0, l1, l2, some (.int a)], .int a :: st, w, k, n) := iln_e rfl (dt_q dX1_digest_0_D 6 rfl) rfl
theorem eX1_digest_11 : WP (MX1_digest g) Q (11, [l0, l1, l2, l3], st, w, k, n) = WP (MX1_digest g) Q (13, [l0, l1, l2, l3], .int 8 :: st, w, k, n) := bipush_e rfl (dt_q dX1_digest_0_D 7 rfl) (by decide)
theorem eX1_digest_13 : WP (MX1_digest g) Q (13, [l0, l1, l2, l3], .int b :: .int a :: st, w, k, n) = if b ≤ a then WP (MX1_digest g) Q (34, [l0, l1, l2, l3], st, w, k, n) else WP (MX1_digest g) Q (16, [l0, l1, l2, l3], st, w, k, n) := icm_e (b ≤ a) rfl (dt_q dX1_digest_0_D 8 rfl) rfl (by decide)
theorem eX1_digest_16 : WP (MX1_digest g) Q (16, [some (.ref p), l1, l2, l3], st, w, k, n) = WP (MX1_digest g) Q (17, [some (.ref p), l1, l2, l3], .ref p :: st, w, k, n) := alnR_e rfl (dt_q dX1_digest_0_D 9 rfl) rfl
theorem eX1_digest_16N : WP (MX1_digest g) Q (16, [some .null, l1, l2, l3], st, w, k, n) = WP (MX1_digest g) Q (17, [some .null, l1, l2, l3], .null :: st, w, k, n) := alnN_e rfl (dt_q dX1_digest_0_D 9 rfl) rfl
theorem eX1_digest_17 : WP (MX1_digest g) Q (17, [l0, some (.long x), l2, l3], st, w, k, n) = WP (MX1_digest g) Q (18, [l0, some (.long x), l2, l3], .long x :: st, w, k, n) := lln_e rfl (dt_q dX1_digest_0_D 10 rfl) rfl
theorem eX1_digest_18 : WP (MX1_digest g) Q (18, [some (.ref p), l1, l2, l3], st, w, k, n) = WP (MX1_digest g) Q (19, [some (.ref p), l1, l2, l3], .ref p :: st, w, k, n) := alnR_e rfl (dt_q dX1_digest_0_D 11 rfl) rfl
theorem eX1_digest_18N : WP (MX1_digest g) Q (18, [some .null, l1, l2, l3], st, w, k, n) = WP (MX1_digest g) Q (19, [some .null, l1, l2, l3], .null :: st, w, k, n) := alnN_e rfl (dt_q dX1_digest_0_D 11 rfl) rfl
theorem eX1_digest_19 : WP (MX1_digest g) Q (19, [l0, l1, l2, l3], .ref p :: st, w, k, n) = go (rd g w p) 5 fun fs => ∃ v, fs[0]? = some v ∧ WP (MX1_digest g) Q (22, [l0, l1, l2, l3], v :: st, w, k, n) := get_e rfl (dt_q dX1_digest_0_D 12 rfl) rfl
theorem eX1_digest_22 : WP (MX1_digest g) Q (22, [l0, l1, l2, some (.int a)], st, w, k, n) = WP (MX1_digest g) Q (23, [l0, l1, l2, some (.int a)], .int a :: st, w, k, n) := iln_e rfl (dt_q dX1_digest_0_D 13 rfl) rfl
theorem eX1_digest_23 : WP (MX1_digest g) Q (23, [l0, l1, l2, l3], .int a :: .ref p :: st, w, k, n) = gl (rd g w p) 0 fun N f => vp_in a N ∧ WP (MX1_digest g) Q (24, [l0, l1, l2, l3], .long (f a.toNatClampNeg) :: st, w, k, n) := laload_e rfl (dt_q dX1_digest_0_D 14 rfl)
theorem eX1_digest_24 {z0 : Int64} {z1 : Int64} : WP (MX1_digest g) Q (24, [l0, l1, l2, l3], .long z1 :: .long z0 :: .ref p :: st, w, k, n) = (go (rd g w p) 5 (fun _ => True) ∧ wt st ≤ 8 ∧ k + 0 ≤ 24 ∧ n + 0 ≤ 96 ∧ WP (MX1_withNumber g) (kx (fun v w' => WP (MX1_digest g) Q (27, [l0, l1, l2, l3], v.toList ++ st, w', k + 0, n + 0)) (fun E w' => Q (.inr E) w')) (0, [some (.ref p), some (.long z0), none, some (.long z1), none, none, none], [], w, 0, 0)) := csV0 (M := (MX1_digest g)) (mc := (fun _ _ => 0)) (ms := (fun _ _ => 0)) (As := [.long z0, .long z1]) (rest := st) (MX1_withNumber g) rfl rfl rfl (dt_q dX1_digest_0_D 15 rfl) rfl rfl rfl rfl rfl rfl
theorem eX1_digest_27 : WP (MX1_digest g) Q (27, [l0, l1, l2, l3], .long x :: st, w, k, n) = WP (MX1_digest g) Q (28, [nl l0, some (.long x), none, l3], st, w, k, n) := lsn_e rfl (dt_q dX1_digest_0_D 16 rfl) rfl rfl
theorem eX1_digest_28 : WP (MX1_digest g) Q (28, [l0, l1, l2, some (.int a)], st, w, k, n) = WP (MX1_digest g) Q (31, [l0, l1, nl l2, some (.int (a + 1))], st, w, k, n) := Eq.trans (iinc_e (M := (MX1_digest g)) (L := [l0, l1, l2, some (.int a)]) (d := 1) rfl (dt_q dX1_digest_0_D 17 rfl) (by decide) rfl) rfl
theorem eX1_digest_31 : WP (MX1_digest g) Q (31, [l0, l1, l2, l3], st, w, k, n) = WP (MX1_digest g) Q (10, [l0, l1, l2, l3], st, w, k, n) := goto_e rfl (dt_q dX1_digest_0_D 18 rfl) (by decide)
theorem eX1_digest_34 : WP (MX1_digest g) Q (34, [l0, l1, l2, l3], st, w, k, n) = WP (MX1_digest g) Q (35, [l0, l1, l2, l3], .int 0 :: st, w, k, n) := ic_0 rfl (dt_q dX1_digest_0_D 19 rfl)
theorem eX1_digest_35 : WP (MX1_digest g) Q (35, [l0, l1, l2, l3], .int a :: st, w, k, n) = WP (MX1_digest g) Q (36, [l0, l1, nl l2, some (.int a)], st, w, k, n) := isn_e rfl (dt_q dX1_digest_0_D 20 rfl) rfl rfl
theorem eX1_digest_36 : WP (MX1_digest g) Q (36, [l0, l1, l2, some (.int a)], st, w, k, n) = WP (MX1_digest g) Q (37, [l0, l1, l2, some (.int a)], .int a :: st, w, k, n) := iln_e rfl (dt_q dX1_digest_0_D 21 rfl) rfl
theorem eX1_digest_37 : WP (MX1_digest g) Q (37, [l0, l1, l2, l3], st, w, k, n) = WP (MX1_digest g) Q (39, [l0, l1, l2, l3], .int 6 :: st, w, k, n) := bipush_e rfl (dt_q dX1_digest_0_D 22 rfl) (by decide)
theorem eX1_digest_39 : WP (MX1_digest g) Q (39, [l0, l1, l2, l3], .int b :: .int a :: st, w, k, n) = if b ≤ a then WP (MX1_digest g) Q (60, [l0, l1, l2, l3], st, w, k, n) else WP (MX1_digest g) Q (42, [l0, l1, l2, l3], st, w, k, n) := icm_e (b ≤ a) rfl (dt_q dX1_digest_0_D 23 rfl) rfl (by decide)
theorem eX1_digest_42 : WP (MX1_digest g) Q (42, [some (.ref p), l1, l2, l3], st, w, k, n) = WP (MX1_digest g) Q (43, [some (.ref p), l1, l2, l3], .ref p :: st, w, k, n) := alnR_e rfl (dt_q dX1_digest_0_D 24 rfl) rfl
theorem eX1_digest_42N : WP (MX1_digest g) Q (42, [some .null, l1, l2, l3], st, w, k, n) = WP (MX1_digest g) Q (43, [some .null, l1, l2, l3], .null :: st, w, k, n) := alnN_e rfl (dt_q dX1_digest_0_D 24 rfl) rfl
theorem eX1_digest_43 : WP (MX1_digest g) Q (43, [l0, some (.long x), l2, l3], st, w, k, n) = WP (MX1_digest g) Q (44, [l0, some (.long x), l2, l3], .long x :: st, w, k, n) := lln_e rfl (dt_q dX1_digest_0_D 25 rfl) rfl
theorem eX1_digest_44 : WP (MX1_digest g) Q (44, [some (.ref p), l1, l2, l3], st, w, k, n) = WP (MX1_digest g) Q (45, [some (.ref p), l1, l2, l3], .ref p :: st, w, k, n) := alnR_e rfl (dt_q dX1_digest_0_D 26 rfl) rfl
theorem eX1_digest_44N : WP (MX1_digest g) Q (44, [some .null, l1, l2, l3], st, w, k, n) = WP (MX1_digest g) Q (45, [some .null, l1, l2, l3], .null :: st, w, k, n) := alnN_e rfl (dt_q dX1_digest_0_D 26 rfl) rfl
theorem eX1_digest_45 : WP (MX1_digest g) Q (45, [l0, l1, l2, l3], .ref p :: st, w, k, n) = go (rd g w p) 5 fun fs => ∃ v, fs[1]? = some v ∧ WP (MX1_digest g) Q (48, [l0, l1, l2, l3], v :: st, w, k, n) := get_e rfl (dt_q dX1_digest_0_D 27 rfl) rfl
theorem eX1_digest_48 : WP (MX1_digest g) Q (48, [l0, l1, l2, some (.int a)], st, w, k, n) = WP (MX1_digest g) Q (49, [l0, l1, l2, some (.int a)], .int a :: st, w, k, n) := iln_e rfl (dt_q dX1_digest_0_D 28 rfl) rfl
theorem eX1_digest_49 : WP (MX1_digest g) Q (49, [l0, l1, l2, l3], .int a :: .ref p :: st, w, k, n) = gq (rd g w p) fun t N f => (t = 4 ∨ t = 5) ∧ vp_in a N ∧ WP (MX1_digest g) Q (50, [l0, l1, l2, l3], va_rf (f a.toNatClampNeg) :: st, w, k, n) := aaload_e rfl (dt_q dX1_digest_0_D 29 rfl)
theorem eX1_digest_50R {z0 : Int64} {z1 : Nat} : WP (MX1_digest g) Q (50, [l0, l1, l2, l3], .ref z1 :: .long z0 :: .ref p :: st, w, k, n) = (go (rd g w p) 5 (fun _ => True) ∧ wt st ≤ 8 ∧ k + 0 ≤ 24 ∧ n + 0 ≤ 96 ∧ WP (MX1_withCard g) (kx (fun v w' => WP (MX1_digest g) Q (53, [l0, l1, l2, l3], v.toList ++ st, w', k + 0, n + 0)) (fun E w' => Q (.inr E) w')) (0, [some (.ref p), some (.long z0), none, some (.ref z1), none, none, none], [], w, 0, 0)) := csV0 (M := (MX1_digest g)) (mc := (fun _ _ => 0)) (ms := (fun _ _ => 0)) (As := [.long z0, .ref z1]) (rest := st) (MX1_withCard g) rfl rfl rfl (dt_q dX1_digest_0_D 30 rfl) rfl rfl rfl rfl rfl rfl
theorem eX1_digest_50N {z0 : Int64} : WP (MX1_digest g) Q (50, [l0, l1, l2, l3], .null :: .long z0 :: .ref p :: st, w, k, n) = (go (rd g w p) 5 (fun _ => True) ∧ wt st ≤ 8 ∧ k + 0 ≤ 24 ∧ n + 0 ≤ 96 ∧ WP (MX1_withCard g) (kx (fun v w' => WP (MX1_digest g) Q (53, [l0, l1, l2, l3], v.toList ++ st, w', k + 0, n + 0)) (fun E w' => Q (.inr E) w')) (0, [some (.ref p), some (.long z0), none, some .null, none, none, none], [], w, 0, 0)) := csV0 (M := (MX1_digest g)) (mc := (fun _ _ => 0)) (ms := (fun _ _ => 0)) (As := [.long z0, .null]) (rest := st) (MX1_withCard g) rfl rfl rfl (dt_q dX1_digest_0_D 30 rfl) rfl rfl rfl rfl rfl rfl
theorem eX1_digest_53 : WP (MX1_digest g) Q (53, [l0, l1, l2, l3], .long x :: st, w, k, n) = WP (MX1_digest g) Q (54, [nl l0, some (.long x), none, l3], st, w, k, n) := lsn_e rfl (dt_q dX1_digest_0_D 31 rfl) rfl rfl
theorem eX1_digest_54 : WP (MX1_digest g) Q (54, [l0, l1, l2, some (.int a)], st, w, k, n) = WP (MX1_digest g) Q (57, [l0, l1, nl l2, some (.int (a + 1))], st, w, k, n) := Eq.trans (iinc_e (M := (MX1_digest g)) (L := [l0, l1, l2, some (.int a)]) (d := 1) rfl (dt_q dX1_digest_0_D 32 rfl) (by decide) rfl) rfl
theorem eX1_digest_57 : WP (MX1_digest g) Q (57, [l0, l1, l2, l3], st, w, k, n) = WP (MX1_digest g) Q (36, [l0, l1, l2, l3], st, w, k, n) := goto_e rfl (dt_q dX1_digest_0_D 33 rfl) (by decide)
theorem eX1_digest_60 : WP (MX1_digest g) Q (60, [some (.ref p), l1, l2, l3], st, w, k, n) = WP (MX1_digest g) Q (61, [some (.ref p), l1, l2, l3], .ref p :: st, w, k, n) := alnR_e rfl (dt_q dX1_digest_0_D 34 rfl) rfl
theorem eX1_digest_60N : WP (MX1_digest g) Q (60, [some .null, l1, l2, l3], st, w, k, n) = WP (MX1_digest g) Q (61, [some .null, l1, l2, l3], .null :: st, w, k, n) := alnN_e rfl (dt_q dX1_digest_0_D 34 rfl) rfl
theorem eX1_digest_61 : WP (MX1_digest g) Q (61, [l0, some (.long x), l2, l3], st, w, k, n) = WP (MX1_digest g) Q (62, [l0, some (.long x), l2, l3], .long x :: st, w, k, n) := lln_e rfl (dt_q dX1_digest_0_D 35 rfl) rfl
theorem eX1_digest_62 {z0 : Int64} : WP (MX1_digest g) Q (62, [l0, l1, l2, l3], .long z0 :: .ref p :: st, w, k, n) = (go (rd g w p) 5 (fun _ => True) ∧ wt st ≤ 8 ∧ k + 0 ≤ 24 ∧ n + 0 ≤ 96 ∧ WP (MX1_withWhichAndPile g) (kx (fun v w' => WP (MX1_digest g) Q (65, [l0, l1, l2, l3], v.toList ++ st, w', k + 0, n + 0)) (fun E w' => Q (.inr E) w')) (0, [some (.ref p), some (.long z0), none, none, none, none], [], w, 0, 0)) := csV0 (M := (MX1_digest g)) (mc := (fun _ _ => 0)) (ms := (fun _ _ => 0)) (As := [.long z0]) (rest := st) (MX1_withWhichAndPile g) rfl rfl rfl (dt_q dX1_digest_0_D 36 rfl) rfl rfl rfl rfl rfl rfl
theorem eX1_digest_65 : WP (MX1_digest g) Q (65, [l0, l1, l2, l3], .long x :: st, w, k, n) = WP (MX1_digest g) Q (66, [nl l0, some (.long x), none, l3], st, w, k, n) := lsn_e rfl (dt_q dX1_digest_0_D 37 rfl) rfl rfl
theorem eX1_digest_66 : WP (MX1_digest g) Q (66, [l0, some (.long x), l2, l3], st, w, k, n) = WP (MX1_digest g) Q (67, [l0, some (.long x), l2, l3], .long x :: st, w, k, n) := lln_e rfl (dt_q dX1_digest_0_D 38 rfl) rfl
theorem eX1_digest_67 : WP (MX1_digest g) Q (67, [some (.ref p), l1, l2, l3], st, w, k, n) = WP (MX1_digest g) Q (68, [some (.ref p), l1, l2, l3], .ref p :: st, w, k, n) := alnR_e rfl (dt_q dX1_digest_0_D 39 rfl) rfl
theorem eX1_digest_67N : WP (MX1_digest g) Q (67, [some .null, l1, l2, l3], st, w, k, n) = WP (MX1_digest g) Q (68, [some .null, l1, l2, l3], .null :: st, w, k, n) := alnN_e rfl (dt_q dX1_digest_0_D 39 rfl) rfl
theorem eX1_digest_68  : WP (MX1_digest g) Q (68, [l0, l1, l2, l3], .ref p :: st, w, k, n) = (go (rd g w p) 5 (fun _ => True) ∧ wt st ≤ 8 ∧ k + 24 ≤ 24 ∧ n + 96 ≤ 96 ∧ WP (MX1_isSound g) (kx (fun v w' => WP (MX1_digest g) Q (71, [l0, l1, l2, l3], v.toList ++ st, w', k + 24, n + 96)) (fun E w' => Q (.inr E) w')) (0, [some (.ref p), none, none], [], w, 0, 0)) := csV0 (M := (MX1_digest g)) (mc := (fun _ _ => 24)) (ms := (fun _ _ => 96)) (As := []) (rest := st) (MX1_isSound g) rfl rfl rfl (dt_q dX1_digest_68_D 0 rfl) rfl rfl rfl rfl rfl rfl
theorem eX1_digest_71 {z0 : Int32} : WP (MX1_digest g) Q (71, [l0, l1, l2, l3], .int z0 :: st, w, k, n) = (wt st ≤ 8 ∧ k + 0 ≤ 24 ∧ n + 0 ≤ 96 ∧ WP (MX1_asNumber g) (kx (fun v w' => WP (MX1_digest g) Q (74, [l0, l1, l2, l3], v.toList ++ st, w', k + 0, n + 0)) (fun E w' => Q (.inr E) w')) (0, [some (.int z0)], [], w, 0, 0)) := csS0 (M := (MX1_digest g)) (mc := (fun _ _ => 0)) (ms := (fun _ _ => 0)) (As := [.int z0]) (rest := st) (MX1_asNumber g) rfl rfl rfl (dt_q dX1_digest_68_D 1 rfl) rfl rfl rfl rfl rfl rfl rfl
theorem eX1_digest_74 : WP (MX1_digest g) Q (74, [l0, l1, l2, l3], .int a :: st, w, k, n) = WP (MX1_digest g) Q (75, [l0, l1, l2, l3], .long a.toInt64 :: st, w, k, n) := i2l_e rfl (dt_q dX1_digest_68_D 2 rfl)
theorem eX1_digest_75 {z0 : Int64} {z1 : Int64} : WP (MX1_digest g) Q (75, [l0, l1, l2, l3], .long z1 :: .long z0 :: st, w, k, n) = (wt st ≤ 8 ∧ k + 0 ≤ 24 ∧ n + 0 ≤ 96 ∧ WP (MX1_with g) (kx (fun v w' => WP (MX1_digest g) Q (78, [l0, l1, l2, l3], v.toList ++ st, w', k + 0, n + 0)) (fun E w' => Q (.inr E) w')) (0, [some (.long z0), none, some (.long z1), none], [], w, 0, 0)) := csS0 (M := (MX1_digest g)) (mc := (fun _ _ => 0)) (ms := (fun _ _ => 0)) (As := [.long z0, .long z1]) (rest := st) (MX1_with g) rfl rfl rfl (dt_q dX1_digest_68_D 3 rfl) rfl rfl rfl rfl rfl rfl rfl
theorem eX1_digest_78 : WP (MX1_digest g) Q (78, [l0, l1, l2, l3], [.long x], w, k, n) = (k ≤ 24 ∧ n ≤ 96 ∧ Q (.inl (some (.long x))) w) := lret_e rfl (dt_q dX1_digest_68_D 4 rfl) rfl
end
theorem wk_248 : (.constantLong RX1 217 (7783) : Jvm.Cond) ∈ WS := WS_t1 190 rfl rfl
theorem wk_252 : (.code yX1_withHouse cX1_withHouse 6 (some .long) : Jvm.Cond) ∈ WS := WS_t1 194 rfl rfl
theorem wk_249 : (.methodLink RX1 219 yX1_withHouse : Jvm.Cond) ∈ WS := WS_t1 191 rfl rfl
theorem wk_251 : (.instanceMethod yX1_withHouse : Jvm.Cond) ∈ WS := WS_t1 193 rfl rfl
theorem wk_13 : (.selects RX1 yX1_withHouse yX1_withHouse : Jvm.Cond) ∈ WS := WS_at 13 (by decide +kernel) rfl
theorem wk_271 : (.code yX1_withNumber cX1_withNumber 7 (some .long) : Jvm.Cond) ∈ WS := WS_t1 213 rfl rfl
theorem wk_268 : (.methodLink RX1 223 yX1_withNumber : Jvm.Cond) ∈ WS := WS_t1 210 rfl rfl
theorem wk_270 : (.instanceMethod yX1_withNumber : Jvm.Cond) ∈ WS := WS_t1 212 rfl rfl
theorem wk_16 : (.selects RX1 yX1_withNumber yX1_withNumber : Jvm.Cond) ∈ WS := WS_at 16 (by decide +kernel) rfl
theorem wk_290 : (.code yX1_withCard cX1_withCard 7 (some .long) : Jvm.Cond) ∈ WS := WS_t1 232 rfl rfl
theorem wk_287 : (.methodLink RX1 227 yX1_withCard : Jvm.Cond) ∈ WS := WS_t1 229 rfl rfl
theorem wk_289 : (.instanceMethod yX1_withCard : Jvm.Cond) ∈ WS := WS_t1 231 rfl rfl
theorem wk_19 : (.selects RX1 yX1_withCard yX1_withCard : Jvm.Cond) ∈ WS := WS_at 19 (by decide +kernel) rfl
theorem wk_315 : (.code yX1_withWhichAndPile cX1_withWhichAndPile 6 (some .long) : Jvm.Cond) ∈ WS := WS_t2 17 rfl rfl
theorem wk_312 : (.methodLink RX1 231 yX1_withWhichAndPile : Jvm.Cond) ∈ WS := WS_t2 14 rfl rfl
theorem wk_314 : (.instanceMethod yX1_withWhichAndPile : Jvm.Cond) ∈ WS := WS_t2 16 rfl rfl
theorem wk_23 : (.selects RX1 yX1_withWhichAndPile yX1_withWhichAndPile : Jvm.Cond) ∈ WS := WS_at 23 (by decide +kernel) rfl
theorem wk_136 : (.code yX1_isSound cX1_isSound 3 (some .boolean) : Jvm.Cond) ∈ WS := WS_t1 78 rfl rfl
theorem wk_331 : (.methodLink RX1 234 yX1_isSound : Jvm.Cond) ∈ WS := WS_t2 33 rfl rfl
theorem wk_134 : (.instanceMethod yX1_isSound : Jvm.Cond) ∈ WS := WS_t1 76 rfl rfl
theorem wk_135 : (.selects RX1 yX1_isSound yX1_isSound : Jvm.Cond) ∈ WS := WS_t1 77 rfl rfl
theorem kc_130 {l : Launch} (hl : l.stackTraces = false) {G : GT} {own : String} {i : Nat} (hw : Jvm.Cond.methodLink own i yX1_withHouse ∈ WS) : vCal l G own i (2, 2, 5, 4, (fun _ _ => 0), (fun _ _ => 0), yX1_withHouse, spOf (MX1_withHouse (gg G))) := ⟨cX1_withHouse, 6, some .long, fun y hy => by subst hy; exact ⟨by decide, ⟨_, wk_252, okX1_withHouse hl, Or.inl ⟨Nat.ne_of_beq_eq_false rfl, rfl⟩⟩, wk_59, nc14, ⟨(by decide +kernel : (parseMethodDescriptor yX1_withHouse.desc).map (fun d => d.parameters.length + 1) = some 2), hw, wk_251, wk_13, (RX1, TX1, 7), rfl, rfl⟩⟩⟩
theorem kc_131 {l : Launch} (hl : l.stackTraces = false) {G : GT} {own : String} {i : Nat} (hw : Jvm.Cond.methodLink own i yX1_withNumber ∈ WS) : vCal l G own i (2, 3, 5, 5, (fun _ _ => 0), (fun _ _ => 0), yX1_withNumber, spOf (MX1_withNumber (gg G))) := ⟨cX1_withNumber, 7, some .long, fun y hy => by subst hy; exact ⟨by decide, ⟨_, wk_271, okX1_withNumber hl, Or.inl ⟨Nat.ne_of_beq_eq_false rfl, rfl⟩⟩, wk_59, nc14, ⟨(by decide +kernel : (parseMethodDescriptor yX1_withNumber.desc).map (fun d => d.parameters.length + 1) = some 3), hw, wk_270, wk_16, (RX1, TX1, 7), rfl, rfl⟩⟩⟩
theorem kc_132 {l : Launch} (hl : l.stackTraces = false) {G : GT} {own : String} {i : Nat} (hw : Jvm.Cond.methodLink own i yX1_withCard ∈ WS) : vCal l G own i (2, 3, 5, 6, (fun _ _ => 0), (fun _ _ => 0), yX1_withCard, spOf (MX1_withCard (gg G))) := ⟨cX1_withCard, 7, some .long, fun y hy => by subst hy; exact ⟨by decide, ⟨_, wk_290, okX1_withCard hl, Or.inl ⟨Nat.ne_of_beq_eq_false rfl, rfl⟩⟩, wk_59, nc14, ⟨(by decide +kernel : (parseMethodDescriptor yX1_withCard.desc).map (fun d => d.parameters.length + 1) = some 3), hw, wk_289, wk_19, (RX1, TX1, 7), rfl, rfl⟩⟩⟩
theorem kc_133 {l : Launch} (hl : l.stackTraces = false) {G : GT} {own : String} {i : Nat} (hw : Jvm.Cond.methodLink own i yX1_withWhichAndPile ∈ WS) : vCal l G own i (2, 2, 5, 5, (fun _ _ => 0), (fun _ _ => 0), yX1_withWhichAndPile, spOf (MX1_withWhichAndPile (gg G))) := ⟨cX1_withWhichAndPile, 6, some .long, fun y hy => by subst hy; exact ⟨by decide, ⟨_, wk_315, okX1_withWhichAndPile hl, Or.inl ⟨Nat.ne_of_beq_eq_false rfl, rfl⟩⟩, wk_59, nc14, ⟨(by decide +kernel : (parseMethodDescriptor yX1_withWhichAndPile.desc).map (fun d => d.parameters.length + 1) = some 2), hw, wk_314, wk_23, (RX1, TX1, 7), rfl, rfl⟩⟩⟩
theorem kc_134 {l : Launch} (hl : l.stackTraces = false) {G : GT} {own : String} {i : Nat} (hw : Jvm.Cond.methodLink own i yX1_isSound ∈ WS) : vCal l G own i (2, 1, 5, 6, (fun _ _ => 24), (fun _ _ => 96), yX1_isSound, spOf (MX1_isSound (gg G))) := ⟨cX1_isSound, 3, some .boolean, fun y hy => by subst hy; exact ⟨by decide, ⟨_, wk_136, okX1_isSound hl, Or.inl ⟨Nat.ne_of_beq_eq_false rfl, rfl⟩⟩, wk_59, nc14, ⟨(by decide +kernel : (parseMethodDescriptor yX1_isSound.desc).map (fun d => d.parameters.length + 1) = some 1), hw, wk_134, wk_135, (RX1, TX1, 7), rfl, rfl⟩⟩⟩
theorem vMX1_digest {l : Launch} (hl : l.stackTraces = false) (G : GT) : vM l G (MX1_digest (gg G)) := vM_k RX1 cX1_digest rfl rfl (all_c (vF_RX1_9) (all_c (vF_RX1_15) (all_n))) all_n all_n (all_c (wk_248) (all_n)) all_n (fun h => absurd rfl h) (all_c (kc_130 hl wk_249) (all_c (kc_131 hl wk_268) (all_c (kc_132 hl wk_287) (all_c (kc_133 hl wk_312) (all_c (kc_134 hl wk_331) (all_c (kc_86 hl wk_261) (all_c (kc_106 hl wk_264) (all_n)))))))) all_n all_n (fun h => absurd rfl h) rfl all_n
theorem okX1_digest {l : Launch} (hl : l.stackTraces = false) {G : GT} : ∀ (args : List Value) (w : Hw) (S : Ot → Hw → Prop), spOf (MX1_digest (gg G)) args w S → CX l G yX1_digest (.code yX1_digest cX1_digest 4 (some .long)) 7 24 96 args w S := CX_sp (M := MX1_digest (gg G)) (y := yX1_digest) hl (by decide) rfl (vMX1_digest hl G) (fun h => by cases h) rfl
end
/-! 66.texz.lean.txt -/
section
abbrev dX1_appendBackwards_0_T : List (Nat × Instr × Nat) := [(0, .lload_n 1, 1), (1, .lstore_n 3, 1), (2, .iconst 0, 1), (3, .istore 5, 2), (5, .iload 5, 2), (7, .bipush 19, 2), (9, .if_icmp .ge 38, 3), (12, .aload_n 0, 1), (13, .lload_n 3, 1), (14, .ldc2_w 264, 3), (17, .lrem, 1), (18, .l2i, 1), (19, .invokestatic 266, 3), (22, .invokevirtual 271, 3), (25, .pop, 1), (26, .lload_n 3, 1), (27, .ldc2_w 264, 3), (30, .ldiv, 1), (31, .lstore_n 3, 1), (32, .lload_n 3, 1), (33, .lconst 0, 1), (34, .lcmp, 1), (35, .ifCond .ne 6, 3), (38, .goto 9, 3), (41, .iinc 5 1, 3), (44, .goto (-39), 3), (47, .lload_n 1, 1), (48, .lconst 0, 1), (49, .lcmp, 1), (50, .ifCond .ge 10, 3), (53, .aload_n 0, 1), (54, .bipush 45, 2), (56, .invokevirtual 146, 3), (59, .pop, 1), (60, .return_, 1)]
theorem dX1_appendBackwards_0_D : dtc cX1_appendBackwards dX1_appendBackwards_0_T = true := by decide +kernel
def MX1_appendBackwards (g : RO) : MT := ((RX1, cX1_appendBackwards, 6, 6, 3, 246, false, none), [], [], [], [(264, 10)], [], 0, [(271, 2, 2, 1, 5, kfI, sfI, yJ4_append_bf812, spF (MJ4_append_bf812 g) kfI sfI), (146, 2, 2, 1, 5, kfI, sfI, yJ4_append_cf468, spF (MJ4_append_cf468 g) kfI sfI)], [(266, 14)], [], 0, [], [], g)
section
variable {g : RO} {Q : Ot → Hw → Prop} {st : List Value} {w : Hw} {k n p q : Nat} {a b : Int32} {x y : Int64} {u v : Value} {l0 l1 l2 l3 l4 l5 : Option Value}
theorem eX1_appendBackwards_0 : WP (MX1_appendBackwards g) Q (0, [l0, some (.long x), l2, l3, l4, l5], st, w, k, n) = WP (MX1_appendBackwards g) Q (1, [l0, some (.long x), l2, l3, l4, l5], .long x :: st, w, k, n) := lln_e rfl (dt_q dX1_appendBackwards_0_D 0 rfl) rfl
theorem eX1_appendBackwards_1 : WP (MX1_appendBackwards g) Q (1, [l0, l1, l2, l3, l4, l5], .long x :: st, w, k, n) = WP (MX1_appendBackwards g) Q (2, [l0, l1, nl l2, some (.long x), none, l5], st, w, k, n) := lsn_e rfl (dt_q dX1_appendBackwards_0_D 1 rfl) rfl rfl
theorem eX1_appendBackwards_2 : WP (MX1_appendBackwards g) Q (2, [l0, l1, l2, l3, l4, l5], st, w, k, n) = WP (MX1_appendBackwards g) Q (3, [l0, l1, l2, l3, l4, l5], .int 0 :: st, w, k, n) := ic_0 rfl (dt_q dX1_appendBackwards_0_D 2 rfl)
theorem eX1_appendBackwards_3 : WP (MX1_appendBackwards g) Q (3, [l0, l1, l2, l3, l4, l5], .int a :: st, w, k, n) = WP (MX1_appendBackwards g) Q (5, [l0, l1, l2, l3, nl l4, some (.int a)], st, w, k, n) := is_e rfl (dt_q dX1_appendBackwards_0_D 3 rfl) rfl rfl
theorem eX1_appendBackwards_5 : WP (MX1_appendBackwards g) Q (5, [l0, l1, l2, l3, l4, some (.int a)], st, w, k, n) = WP (MX1_appendBackwards g) Q (7, [l0, l1, l2, l3, l4, some (.int a)], .int a :: st, w, k, n) := il_e rfl (dt_q dX1_appendBackwards_0_D 4 rfl) rfl
theorem eX1_appendBackwards_7 : WP (MX1_appendBackwards g) Q (7, [l0, l1, l2, l3, l4, l5], st, w, k, n) = WP (MX1_appendBackwards g) Q (9, [l0, l1, l2, l3, l4, l5], .int 19 :: st, w, k, n) := bipush_e rfl (dt_q dX1_appendBackwards_0_D 5 rfl) (by decide)
theorem eX1_appendBackwards_9 : WP (MX1_appendBackwards g) Q (9, [l0, l1, l2, l3, l4, l5], .int b :: .int a :: st, w, k, n) = if b ≤ a then WP (MX1_appendBackwards g) Q (47, [l0, l1, l2, l3, l4, l5], st, w, k, n) else WP (MX1_appendBackwards g) Q (12, [l0, l1, l2, l3, l4, l5], st, w, k, n) := icm_e (b ≤ a) rfl (dt_q dX1_appendBackwards_0_D 6 rfl) rfl (by decide)
theorem eX1_appendBackwards_12 : WP (MX1_appendBackwards g) Q (12, [some (.ref p), l1, l2, l3, l4, l5], st, w, k, n) = WP (MX1_appendBackwards g) Q (13, [some (.ref p), l1, l2, l3, l4, l5], .ref p :: st, w, k, n) := alnR_e rfl (dt_q dX1_appendBackwards_0_D 7 rfl) rfl
theorem eX1_appendBackwards_12N : WP (MX1_appendBackwards g) Q (12, [some .null, l1, l2, l3, l4, l5], st, w, k, n) = WP (MX1_appendBackwards g) Q (13, [some .null, l1, l2, l3, l4, l5], .null :: st, w, k, n) := alnN_e rfl (dt_q dX1_appendBackwards_0_D 7 rfl) rfl
theorem eX1_appendBackwards_13 : WP (MX1_appendBackwards g) Q (13, [l0, l1, l2, some (.long x), l4, l5], st, w, k, n) = WP (MX1_appendBackwards g) Q (14, [l0, l1, l2, some (.long x), l4, l5], .long x :: st, w, k, n) := lln_e rfl (dt_q dX1_appendBackwards_0_D 8 rfl) rfl
theorem eX1_appendBackwards_14 : WP (MX1_appendBackwards g) Q (14, [l0, l1, l2, l3, l4, l5], st, w, k, n) = WP (MX1_appendBackwards g) Q (17, [l0, l1, l2, l3, l4, l5], .long 10 :: st, w, k, n) := ldc2_e rfl (dt_q dX1_appendBackwards_0_D 9 rfl) rfl
theorem eX1_appendBackwards_17 : WP (MX1_appendBackwards g) Q (17, [l0, l1, l2, l3, l4, l5], .long y :: .long x :: st, w, k, n) = (¬ y = 0 ∧ WP (MX1_appendBackwards g) Q (18, [l0, l1, l2, l3, l4, l5], .long (x - x / y * y) :: st, w, k, n)) := Eq.trans (WP_at (M := (MX1_appendBackwards g)) rfl (dt_q dX1_appendBackwards_0_D 10 rfl) (Or.inr rfl)) rfl
theorem eX1_appendBackwards_18 : WP (MX1_appendBackwards g) Q (18, [l0, l1, l2, l3, l4, l5], .long x :: st, w, k, n) = WP (MX1_appendBackwards g) Q (19, [l0, l1, l2, l3, l4, l5], .int x.toInt32 :: st, w, k, n) := l2i_e rfl (dt_q dX1_appendBackwards_0_D 11 rfl)
theorem eX1_appendBackwards_19 : WP (MX1_appendBackwards g) Q (19, [l0, l1, l2, l3, l4, l5], .int a :: st, w, k, n) = (wt st ≤ 8 ∧ k ≤ 3 ∧ n ≤ 246 ∧ WP (MX1_appendBackwards g) Q (22, [l0, l1, l2, l3, l4, l5], .int (if 0 ≤ a then a else 0 - a) :: st, w, k, n)) := mabs_e rfl (dt_q dX1_appendBackwards_0_D 12 rfl) (Nat.ne_of_beq_eq_false rfl) rfl (Nat.le_of_ble_eq_true rfl)
theorem eX1_appendBackwards_22 {z0 : Int32} : WP (MX1_appendBackwards g) Q (22, [l0, l1, l2, l3, l4, l5], .int z0 :: .ref p :: st, w, k, n) = (go (rd g w p) 1 (fun _ => True) ∧ wt st ≤ 8 ∧ k + kfI [.ref p, .int z0] w ≤ 3 ∧ n + sfI [.ref p, .int z0] w ≤ 246 ∧ WP (MJ4_append_bf812 g (kfI [.ref p, .int z0] w) (sfI [.ref p, .int z0] w)) (kx (fun v w' => WP (MX1_appendBackwards g) Q (25, [l0, l1, l2, l3, l4, l5], v.toList ++ st, w', k + kfI [.ref p, .int z0] w, n + sfI [.ref p, .int z0] w)) (fun E w' => Q (.inr E) w')) (0, [some (.ref p), some (.int z0)], [], w, 0, 0)) := csV (M := (MX1_appendBackwards g)) (mc := kfI) (ms := sfI) (As := [.int z0]) (rest := st) (MJ4_append_bf812 g (kfI [.ref p, .int z0] w) (sfI [.ref p, .int z0] w)) rfl rfl (dt_q dX1_appendBackwards_0_D 13 rfl) (by exact fun h => nomatch (show (none : Option Nat) = some 11 from h)) (by exact fun h => nomatch (show (none : Option Nat) = some 15 from h)) rfl rfl (by decide) (Nat.le_of_ble_eq_true rfl) (Nat.le_of_ble_eq_true rfl) rfl
theorem eX1_appendBackwards_25 : WP (MX1_appendBackwards g) Q (25, [l0, l1, l2, l3, l4, l5], .int a :: st, w, k, n) = WP (MX1_appendBackwards g) Q (26, [l0, l1, l2, l3, l4, l5], st, w, k, n) := popI_e rfl (dt_q dX1_appendBackwards_0_D 14 rfl)
theorem eX1_appendBackwards_25R : WP (MX1_appendBackwards g) Q (25, [l0, l1, l2, l3, l4, l5], .ref p :: st, w, k, n) = WP (MX1_appendBackwards g) Q (26, [l0, l1, l2, l3, l4, l5], st, w, k, n) := popR_e rfl (dt_q dX1_appendBackwards_0_D 14 rfl)
theorem eX1_appendBackwards_25N : WP (MX1_appendBackwards g) Q (25, [l0, l1, l2, l3, l4, l5], .null :: st, w, k, n) = WP (MX1_appendBackwards g) Q (26, [l0, l1, l2, l3, l4, l5], st, w, k, n) := popN_e rfl (dt_q dX1_appendBackwards_0_D 14 rfl)
theorem eX1_appendBackwards_26 : WP (MX1_appendBackwards g) Q (26, [l0, l1, l2, some (.long x), l4, l5], st, w, k, n) = WP (MX1_appendBackwards g) Q (27, [l0, l1, l2, some (.long x), l4, l5], .long x :: st, w, k, n) := lln_e rfl (dt_q dX1_appendBackwards_0_D 15 rfl) rfl
theorem eX1_appendBackwards_27 : WP (MX1_appendBackwards g) Q (27, [l0, l1, l2, l3, l4, l5], st, w, k, n) = WP (MX1_appendBackwards g) Q (30, [l0, l1, l2, l3, l4, l5], .long 10 :: st, w, k, n) := ldc2_e rfl (dt_q dX1_appendBackwards_0_D 16 rfl) rfl
theorem eX1_appendBackwards_30 : WP (MX1_appendBackwards g) Q (30, [l0, l1, l2, l3, l4, l5], .long y :: .long x :: st, w, k, n) = (¬ y = 0 ∧ WP (MX1_appendBackwards g) Q (31, [l0, l1, l2, l3, l4, l5], .long (x / y) :: st, w, k, n)) := Eq.trans (WP_at (M := (MX1_appendBackwards g)) rfl (dt_q dX1_appendBackwards_0_D 17 rfl) (Or.inr rfl)) rfl
theorem eX1_appendBackwards_31 : WP (MX1_appendBackwards g) Q (31, [l0, l1, l2, l3, l4, l5], .long x :: st, w, k, n) = WP (MX1_appendBackwards g) Q (32, [l0, l1, nl l2, some (.long x), none, l5], st, w, k, n) := lsn_e rfl (dt_q dX1_appendBackwards_0_D 18 rfl) rfl rfl
theorem eX1_appendBackwards_32 : WP (MX1_appendBackwards g) Q (32, [l0, l1, l2, some (.long x), l4, l5], st, w, k, n) = WP (MX1_appendBackwards g) Q (33, [l0, l1, l2, some (.long x), l4, l5], .long x :: st, w, k, n) := lln_e rfl (dt_q dX1_appendBackwards_0_D 19 rfl) rfl
theorem eX1_appendBackwards_33 : WP (MX1_appendBackwards g) Q (33, [l0, l1, l2, l3, l4, l5], st, w, k, n) = WP (MX1_appendBackwards g) Q (34, [l0, l1, l2, l3, l4, l5], .long 0 :: st, w, k, n) := lconst_e rfl (dt_q dX1_appendBackwards_0_D 20 rfl) (by decide)
theorem eX1_appendBackwards_34 : WP (MX1_appendBackwards g) Q (34, [l0, l1, l2, l3, l4, l5], .long y :: .long x :: st, w, k, n) = WP (MX1_appendBackwards g) Q (35, [l0, l1, l2, l3, l4, l5], .int (lg_cmp x y) :: st, w, k, n) := lcmp_e rfl (dt_q dX1_appendBackwards_0_D 21 rfl)
theorem eX1_appendBackwards_35 : WP (MX1_appendBackwards g) Q (35, [l0, l1, l2, l3, l4, l5], .int a :: st, w, k, n) = if a = 0 then WP (MX1_appendBackwards g) Q (38, [l0, l1, l2, l3, l4, l5], st, w, k, n) else WP (MX1_appendBackwards g) Q (41, [l0, l1, l2, l3, l4, l5], st, w, k, n) := ifcn_e (a = 0) rfl (dt_q dX1_appendBackwards_0_D 22 rfl) rfl (by decide)
theorem eX1_appendBackwards_38 : WP (MX1_appendBackwards g) Q (38, [l0, l1, l2, l3, l4, l5], st, w, k, n) = WP (MX1_appendBackwards g) Q (47, [l0, l1, l2, l3, l4, l5], st, w, k, n) := goto_e rfl (dt_q dX1_appendBackwards_0_D 23 rfl) (by decide)
theorem eX1_appendBackwards_41 : WP (MX1_appendBackwards g) Q (41, [l0, l1, l2, l3, l4, some (.int a)], st, w, k, n) = WP (MX1_appendBackwards g) Q (44, [l0, l1, l2, l3, nl l4, some (.int (a + 1))], st, w, k, n) := Eq.trans (iinc_e (M := (MX1_appendBackwards g)) (L := [l0, l1, l2, l3, l4, some (.int a)]) (d := 1) rfl (dt_q dX1_appendBackwards_0_D 24 rfl) (by decide) rfl) rfl
theorem eX1_appendBackwards_44 : WP (MX1_appendBackwards g) Q (44, [l0, l1, l2, l3, l4, l5], st, w, k, n) = WP (MX1_appendBackwards g) Q (5, [l0, l1, l2, l3, l4, l5], st, w, k, n) := goto_e rfl (dt_q dX1_appendBackwards_0_D 25 rfl) (by decide)
theorem eX1_appendBackwards_47 : WP (MX1_appendBackwards g) Q (47, [l0, some (.long x), l2, l3, l4, l5], st, w, k, n) = WP (MX1_appendBackwards g) Q (48, [l0, some (.long x), l2, l3, l4, l5], .long x :: st, w, k, n) := lln_e rfl (dt_q dX1_appendBackwards_0_D 26 rfl) rfl
theorem eX1_appendBackwards_48 : WP (MX1_appendBackwards g) Q (48, [l0, l1, l2, l3, l4, l5], st, w, k, n) = WP (MX1_appendBackwards g) Q (49, [l0, l1, l2, l3, l4, l5], .long 0 :: st, w, k, n) := lconst_e rfl (dt_q dX1_appendBackwards_0_D 27 rfl) (by decide)
theorem eX1_appendBackwards_49 : WP (MX1_appendBackwards g) Q (49, [l0, l1, l2, l3, l4, l5], .long y :: .long x :: st, w, k, n) = WP (MX1_appendBackwards g) Q (50, [l0, l1, l2, l3, l4, l5], .int (lg_cmp x y) :: st, w, k, n) := lcmp_e rfl (dt_q dX1_appendBackwards_0_D 28 rfl)
theorem eX1_appendBackwards_50 : WP (MX1_appendBackwards g) Q (50, [l0, l1, l2, l3, l4, l5], .int a :: st, w, k, n) = if 0 ≤ a then WP (MX1_appendBackwards g) Q (60, [l0, l1, l2, l3, l4, l5], st, w, k, n) else WP (MX1_appendBackwards g) Q (53, [l0, l1, l2, l3, l4, l5], st, w, k, n) := ifc_e (0 ≤ a) rfl (dt_q dX1_appendBackwards_0_D 29 rfl) rfl (by decide)
theorem eX1_appendBackwards_53 : WP (MX1_appendBackwards g) Q (53, [some (.ref p), l1, l2, l3, l4, l5], st, w, k, n) = WP (MX1_appendBackwards g) Q (54, [some (.ref p), l1, l2, l3, l4, l5], .ref p :: st, w, k, n) := alnR_e rfl (dt_q dX1_appendBackwards_0_D 30 rfl) rfl
theorem eX1_appendBackwards_53N : WP (MX1_appendBackwards g) Q (53, [some .null, l1, l2, l3, l4, l5], st, w, k, n) = WP (MX1_appendBackwards g) Q (54, [some .null, l1, l2, l3, l4, l5], .null :: st, w, k, n) := alnN_e rfl (dt_q dX1_appendBackwards_0_D 30 rfl) rfl
theorem eX1_appendBackwards_54 : WP (MX1_appendBackwards g) Q (54, [l0, l1, l2, l3, l4, l5], st, w, k, n) = WP (MX1_appendBackwards g) Q (56, [l0, l1, l2, l3, l4, l5], .int 45 :: st, w, k, n) := bipush_e rfl (dt_q dX1_appendBackwards_0_D 31 rfl) (by decide)
theorem eX1_appendBackwards_56 {z0 : Int32} : WP (MX1_appendBackwards g) Q (56, [l0, l1, l2, l3, l4, l5], .int z0 :: .ref p :: st, w, k, n) = (go (rd g w p) 1 (fun _ => True) ∧ wt st ≤ 8 ∧ k + kfI [.ref p, .int z0] w ≤ 3 ∧ n + sfI [.ref p, .int z0] w ≤ 246 ∧ WP (MJ4_append_cf468 g (kfI [.ref p, .int z0] w) (sfI [.ref p, .int z0] w)) (kx (fun v w' => WP (MX1_appendBackwards g) Q (59, [l0, l1, l2, l3, l4, l5], v.toList ++ st, w', k + kfI [.ref p, .int z0] w, n + sfI [.ref p, .int z0] w)) (fun E w' => Q (.inr E) w')) (0, [some (.ref p), some (.int z0)], [], w, 0, 0)) := csV (M := (MX1_appendBackwards g)) (mc := kfI) (ms := sfI) (As := [.int z0]) (rest := st) (MJ4_append_cf468 g (kfI [.ref p, .int z0] w) (sfI [.ref p, .int z0] w)) rfl rfl (dt_q dX1_appendBackwards_0_D 32 rfl) (by exact fun h => nomatch (show (none : Option Nat) = some 11 from h)) (by exact fun h => nomatch (show (none : Option Nat) = some 15 from h)) rfl rfl (by decide) (Nat.le_of_ble_eq_true rfl) (Nat.le_of_ble_eq_true rfl) rfl
theorem eX1_appendBackwards_59 : WP (MX1_appendBackwards g) Q (59, [l0, l1, l2, l3, l4, l5], .int a :: st, w, k, n) = WP (MX1_appendBackwards g) Q (60, [l0, l1, l2, l3, l4, l5], st, w, k, n) := popI_e rfl (dt_q dX1_appendBackwards_0_D 33 rfl)
theorem eX1_appendBackwards_59R : WP (MX1_appendBackwards g) Q (59, [l0, l1, l2, l3, l4, l5], .ref p :: st, w, k, n) = WP (MX1_appendBackwards g) Q (60, [l0, l1, l2, l3, l4, l5], st, w, k, n) := popR_e rfl (dt_q dX1_appendBackwards_0_D 33 rfl)
theorem eX1_appendBackwards_59N : WP (MX1_appendBackwards g) Q (59, [l0, l1, l2, l3, l4, l5], .null :: st, w, k, n) = WP (MX1_appendBackwards g) Q (60, [l0, l1, l2, l3, l4, l5], st, w, k, n) := popN_e rfl (dt_q dX1_appendBackwards_0_D 33 rfl)
theorem eX1_appendBackwards_60 : WP (MX1_appendBackwards g) Q (60, [l0, l1, l2, l3, l4, l5], [], w, k, n) = (k ≤ 3 ∧ n ≤ 246 ∧ Q (.inl none) w) := vret_e rfl (dt_q dX1_appendBackwards_0_D 34 rfl) rfl
end
theorem wk_533 : (.constantLong RX1 264 (10) : Jvm.Cond) ∈ WS := WS_t2 235 rfl rfl
theorem wk_540 : (.code yJ4_append_bf812 cJ4_append_bf812 2 (some (.object "java/lang/StringBuilder")) : Jvm.Cond) ∈ WS := WS_t3 2 rfl rfl
theorem wk_537 : (.methodLink RX1 271 yJ4_append_bf812 : Jvm.Cond) ∈ WS := WS_t2 239 rfl rfl
theorem wk_538 : (.instanceMethod yJ4_append_bf812 : Jvm.Cond) ∈ WS := WS_t3 0 rfl rfl
theorem wk_539 : (.selects RJ4 yJ4_append_bf812 yJ4_append_bf812 : Jvm.Cond) ∈ WS := WS_t3 1 rfl rfl
theorem wk_628 : (.code yJ4_append_cf468 cJ4_append_cf468 2 (some (.object "java/lang/StringBuilder")) : Jvm.Cond) ∈ WS := WS_t3 90 rfl rfl
theorem wk_625 : (.methodLink RX1 146 yJ4_append_cf468 : Jvm.Cond) ∈ WS := WS_t3 87 rfl rfl
theorem wk_626 : (.instanceMethod yJ4_append_cf468 : Jvm.Cond) ∈ WS := WS_t3 88 rfl rfl
theorem wk_627 : (.selects RJ4 yJ4_append_cf468 yJ4_append_cf468 : Jvm.Cond) ∈ WS := WS_t3 89 rfl rfl
theorem wk_534 : (.methodLink RX1 266 Lib.Math.abs.name : Jvm.Cond) ∈ WS := WS_t2 236 rfl rfl
theorem kc_135 {l : Launch} (hl : l.stackTraces = false) {G : GT} {own : String} {i : Nat} (hw : Jvm.Cond.methodLink own i yJ4_append_bf812 ∈ WS) : vCal l G own i (2, 2, 1, 5, kfI, sfI, yJ4_append_bf812, spF (MJ4_append_bf812 (gg G)) kfI sfI) := ⟨cJ4_append_bf812, 2, some (.object "java/lang/StringBuilder"), fun y hy => by subst hy; exact ⟨by decide, ⟨_, wk_540, okJ4_append_bf812 hl, Or.inl ⟨Nat.ne_of_beq_eq_false rfl, rfl⟩⟩, wk_75, nc12, ⟨(by decide +kernel : (parseMethodDescriptor yJ4_append_bf812.desc).map (fun d => d.parameters.length + 1) = some 2), hw, wk_538, wk_539, (RJ4, TJ4, 4), rfl, rfl⟩⟩⟩
theorem kc_136 {l : Launch} (hl : l.stackTraces = false) {G : GT} {own : String} {i : Nat} (hw : Jvm.Cond.methodLink own i yJ4_append_cf468 ∈ WS) : vCal l G own i (2, 2, 1, 5, kfI, sfI, yJ4_append_cf468, spF (MJ4_append_cf468 (gg G)) kfI sfI) := ⟨cJ4_append_cf468, 2, some (.object "java/lang/StringBuilder"), fun y hy => by subst hy; exact ⟨by decide, ⟨_, wk_628, okJ4_append_cf468 hl, Or.inl ⟨Nat.ne_of_beq_eq_false rfl, rfl⟩⟩, wk_75, nc12, ⟨(by decide +kernel : (parseMethodDescriptor yJ4_append_cf468.desc).map (fun d => d.parameters.length + 1) = some 2), hw, wk_626, wk_627, (RJ4, TJ4, 4), rfl, rfl⟩⟩⟩
theorem vMX1_appendBackwards {l : Launch} (hl : l.stackTraces = false) (G : GT) : vM l G (MX1_appendBackwards (gg G)) := vM_k RX1 cX1_appendBackwards rfl rfl all_n all_n all_n (all_c (wk_533) (all_n)) all_n (fun h => absurd rfl h) (all_c (kc_135 hl wk_537) (all_c (kc_136 hl wk_625) (all_n))) (all_c (Or.inr (Or.inr (Or.inr (Or.inr (Or.inr (Or.inr (Or.inr (Or.inl ⟨rfl, wk_534⟩)))))))) (all_n)) all_n (fun h => absurd rfl h) rfl all_n
theorem okX1_appendBackwards {l : Launch} (hl : l.stackTraces = false) {G : GT} : ∀ (args : List Value) (w : Hw) (S : Ot → Hw → Prop), spOf (MX1_appendBackwards (gg G)) args w S → CX l G yX1_appendBackwards (.code yX1_appendBackwards cX1_appendBackwards 6 (none)) 6 3 246 args w S := CX_sp (M := MX1_appendBackwards (gg G)) (y := yX1_appendBackwards) hl (by decide) rfl (vMX1_appendBackwards hl G) (fun h => by cases h) rfl
abbrev dX1_numberText_0_T : List (Nat × Instr × Nat) := [(0, .iload_n 1, 1), (1, .invokestatic 35, 3), (4, .new 64, 3), (7, .dup, 1), (8, .invokespecial 66, 3), (11, .astore_n 2, 1), (12, .aload_n 2, 1), (13, .aload_n 0, 1), (14, .getfield 9, 3), (17, .iload_n 1, 1), (18, .laload, 1), (19, .invokestatic 67, 3), (22, .aload_n 2, 1), (23, .invokevirtual 71, 3), (26, .invokevirtual 75, 3), (29, .areturn, 1)]
theorem dX1_numberText_0_D : dtc cX1_numberText dX1_numberText_0_T = true := by decide +kernel
def MX1_numberText (g : RO) : MT := ((RX1, cX1_numberText, 3, 7, 8, 366, false, some (.object "java/lang/String")), [(9, 5, 0)], [(64, 1, [.null, .int 0, .int 0, .int 0])], [], [], [], 0, [(35, 0, 1, 0, 6, (fun _ _ => 1), (fun _ _ => 6), yX1_needNumber, spOf (MX1_needNumber g)), (66, 4, 1, 1, 2, (fun _ _ => 1), (fun _ _ => 16), yJ4_init_da8c8, spOf (MJ4_init_da8c8 g)), (67, 0, 2, 0, 6, (fun _ _ => 3), (fun _ _ => 246), yX1_appendBackwards, spOf (MX1_appendBackwards g)), (71, 2, 1, 1, 3, (fun _ _ => 0), (fun _ _ => 0), yJ4_reverse_43fcb, spOf (MJ4_reverse_43fcb g)), (75, 2, 1, 1, 6, (fun _ _ => 2), (fun _ _ => 94), yJ4_toString_0e30d, spOf (MJ4_toString_0e30d g))], [], [], 0, [], [], g)
section
variable {g : RO} {Q : Ot → Hw → Prop} {st : List Value} {w : Hw} {k n p q : Nat} {a b : Int32} {x y : Int64} {u v : Value} {l0 l1 l2 : Option Value}
theorem eX1_numberText_0 : WP (MX1_numberText g) Q (0, [l0, some (.int a), l2], st, w, k, n) = WP (MX1_numberText g) Q (1, [l0, some (.int a), l2], .int a :: st, w, k, n) := iln_e rfl (dt_q dX1_numberText_0_D 0 rfl) rfl
theorem eX1_numberText_1 {z0 : Int32} : WP (MX1_numberText g) Q (1, [l0, l1, l2], .int z0 :: st, w, k, n) = (wt st ≤ 8 ∧ k + 1 ≤ 8 ∧ n + 6 ≤ 366 ∧ WP (MX1_needNumber g) (kx (fun v w' => WP (MX1_numberText g) Q (4, [l0, l1, l2], v.toList ++ st, w', k + 1, n + 6)) (fun E w' => Q (.inr E) w')) (0, [some (.int z0)], [], w, 0, 0)) := csS0 (M := (MX1_numberText g)) (mc := (fun _ _ => 1)) (ms := (fun _ _ => 6)) (As := [.int z0]) (rest := st) (MX1_needNumber g) rfl rfl rfl (dt_q dX1_numberText_0_D 1 rfl) rfl rfl rfl rfl rfl rfl rfl
theorem eX1_numberText_4 : WP (MX1_numberText g) Q (4, [l0, l1, l2], st, w, k, n) = (k + 1 ≤ 8 ∧ n + 4 ≤ 366 ∧ ∀ q : Nat, rd g w q = none → WP (MX1_numberText g) Q (7, [l0, l1, l2], .ref q :: st, upw w q (.inr (1, [.null, .int 0, .int 0, .int 0])), k + 1, n + 4)) := Eq.trans (new_e (M := (MX1_numberText g)) (fs := [.null, .int 0, .int 0, .int 0]) rfl (dt_q dX1_numberText_0_D 2 rfl) rfl) rfl
theorem eX1_numberText_7 : WP (MX1_numberText g) Q (7, [l0, l1, l2], .int a :: st, w, k, n) = WP (MX1_numberText g) Q (8, [l0, l1, l2], .int a :: .int a :: st, w, k, n) := dupI_e rfl (dt_q dX1_numberText_0_D 3 rfl)
theorem eX1_numberText_7R : WP (MX1_numberText g) Q (7, [l0, l1, l2], .ref p :: st, w, k, n) = WP (MX1_numberText g) Q (8, [l0, l1, l2], .ref p :: .ref p :: st, w, k, n) := dupR_e rfl (dt_q dX1_numberText_0_D 3 rfl)
theorem eX1_numberText_8  : WP (MX1_numberText g) Q (8, [l0, l1, l2], .ref p :: st, w, k, n) = (wt st ≤ 8 ∧ k + 1 ≤ 8 ∧ n + 16 ≤ 366 ∧ WP (MJ4_init_da8c8 g) (kx (fun v w' => WP (MX1_numberText g) Q (11, [l0, l1, l2], v.toList ++ st, w', k + 1, n + 16)) (fun E w' => Q (.inr E) w')) (0, [some (.ref p)], [], w, 0, 0)) := csI (M := (MX1_numberText g)) (mc := (fun _ _ => 1)) (ms := (fun _ _ => 16)) (As := []) (rest := st) (MJ4_init_da8c8 g) rfl rfl (dt_q dX1_numberText_0_D 4 rfl) (Nat.ne_of_beq_eq_false rfl) rfl rfl (Nat.le_of_ble_eq_true rfl) (Nat.le_of_ble_eq_true rfl) rfl
theorem eX1_numberText_11 : WP (MX1_numberText g) Q (11, [l0, l1, l2], .ref p :: st, w, k, n) = WP (MX1_numberText g) Q (12, [l0, nl l1, some (.ref p)], st, w, k, n) := asnR_e rfl (dt_q dX1_numberText_0_D 5 rfl) rfl rfl
theorem eX1_numberText_11N : WP (MX1_numberText g) Q (11, [l0, l1, l2], .null :: st, w, k, n) = WP (MX1_numberText g) Q (12, [l0, nl l1, some (.null)], st, w, k, n) := asnN_e rfl (dt_q dX1_numberText_0_D 5 rfl) rfl rfl
theorem eX1_numberText_12 : WP (MX1_numberText g) Q (12, [l0, l1, some (.ref p)], st, w, k, n) = WP (MX1_numberText g) Q (13, [l0, l1, some (.ref p)], .ref p :: st, w, k, n) := alnR_e rfl (dt_q dX1_numberText_0_D 6 rfl) rfl
theorem eX1_numberText_12N : WP (MX1_numberText g) Q (12, [l0, l1, some .null], st, w, k, n) = WP (MX1_numberText g) Q (13, [l0, l1, some .null], .null :: st, w, k, n) := alnN_e rfl (dt_q dX1_numberText_0_D 6 rfl) rfl
theorem eX1_numberText_13 : WP (MX1_numberText g) Q (13, [some (.ref p), l1, l2], st, w, k, n) = WP (MX1_numberText g) Q (14, [some (.ref p), l1, l2], .ref p :: st, w, k, n) := alnR_e rfl (dt_q dX1_numberText_0_D 7 rfl) rfl
theorem eX1_numberText_13N : WP (MX1_numberText g) Q (13, [some .null, l1, l2], st, w, k, n) = WP (MX1_numberText g) Q (14, [some .null, l1, l2], .null :: st, w, k, n) := alnN_e rfl (dt_q dX1_numberText_0_D 7 rfl) rfl
theorem eX1_numberText_14 : WP (MX1_numberText g) Q (14, [l0, l1, l2], .ref p :: st, w, k, n) = go (rd g w p) 5 fun fs => ∃ v, fs[0]? = some v ∧ WP (MX1_numberText g) Q (17, [l0, l1, l2], v :: st, w, k, n) := get_e rfl (dt_q dX1_numberText_0_D 8 rfl) rfl
theorem eX1_numberText_17 : WP (MX1_numberText g) Q (17, [l0, some (.int a), l2], st, w, k, n) = WP (MX1_numberText g) Q (18, [l0, some (.int a), l2], .int a :: st, w, k, n) := iln_e rfl (dt_q dX1_numberText_0_D 9 rfl) rfl
theorem eX1_numberText_18 : WP (MX1_numberText g) Q (18, [l0, l1, l2], .int a :: .ref p :: st, w, k, n) = gl (rd g w p) 0 fun N f => vp_in a N ∧ WP (MX1_numberText g) Q (19, [l0, l1, l2], .long (f a.toNatClampNeg) :: st, w, k, n) := laload_e rfl (dt_q dX1_numberText_0_D 10 rfl)
theorem eX1_numberText_19R {z0 : Nat} {z1 : Int64} : WP (MX1_numberText g) Q (19, [l0, l1, l2], .long z1 :: .ref z0 :: st, w, k, n) = (wt st ≤ 8 ∧ k + 3 ≤ 8 ∧ n + 246 ≤ 366 ∧ WP (MX1_appendBackwards g) (kx (fun v w' => WP (MX1_numberText g) Q (22, [l0, l1, l2], v.toList ++ st, w', k + 3, n + 246)) (fun E w' => Q (.inr E) w')) (0, [some (.ref z0), some (.long z1), none, none, none, none], [], w, 0, 0)) := csS0 (M := (MX1_numberText g)) (mc := (fun _ _ => 3)) (ms := (fun _ _ => 246)) (As := [.ref z0, .long z1]) (rest := st) (MX1_appendBackwards g) rfl rfl rfl (dt_q dX1_numberText_0_D 11 rfl) rfl rfl rfl rfl rfl rfl rfl
theorem eX1_numberText_19N {z1 : Int64} : WP (MX1_numberText g) Q (19, [l0, l1, l2], .long z1 :: .null :: st, w, k, n) = (wt st ≤ 8 ∧ k + 3 ≤ 8 ∧ n + 246 ≤ 366 ∧ WP (MX1_appendBackwards g) (kx (fun v w' => WP (MX1_numberText g) Q (22, [l0, l1, l2], v.toList ++ st, w', k + 3, n + 246)) (fun E w' => Q (.inr E) w')) (0, [some .null, some (.long z1), none, none, none, none], [], w, 0, 0)) := csS0 (M := (MX1_numberText g)) (mc := (fun _ _ => 3)) (ms := (fun _ _ => 246)) (As := [.null, .long z1]) (rest := st) (MX1_appendBackwards g) rfl rfl rfl (dt_q dX1_numberText_0_D 11 rfl) rfl rfl rfl rfl rfl rfl rfl
theorem eX1_numberText_22 : WP (MX1_numberText g) Q (22, [l0, l1, some (.ref p)], st, w, k, n) = WP (MX1_numberText g) Q (23, [l0, l1, some (.ref p)], .ref p :: st, w, k, n) := alnR_e rfl (dt_q dX1_numberText_0_D 12 rfl) rfl
theorem eX1_numberText_22N : WP (MX1_numberText g) Q (22, [l0, l1, some .null], st, w, k, n) = WP (MX1_numberText g) Q (23, [l0, l1, some .null], .null :: st, w, k, n) := alnN_e rfl (dt_q dX1_numberText_0_D 12 rfl) rfl
theorem eX1_numberText_23  : WP (MX1_numberText g) Q (23, [l0, l1, l2], .ref p :: st, w, k, n) = (go (rd g w p) 1 (fun _ => True) ∧ wt st ≤ 8 ∧ k + 0 ≤ 8 ∧ n + 0 ≤ 366 ∧ WP (MJ4_reverse_43fcb g) (kx (fun v w' => WP (MX1_numberText g) Q (26, [l0, l1, l2], v.toList ++ st, w', k + 0, n + 0)) (fun E w' => Q (.inr E) w')) (0, [some (.ref p)], [], w, 0, 0)) := csV0 (M := (MX1_numberText g)) (mc := (fun _ _ => 0)) (ms := (fun _ _ => 0)) (As := []) (rest := st) (MJ4_reverse_43fcb g) rfl rfl rfl (dt_q dX1_numberText_0_D 13 rfl) rfl rfl rfl rfl rfl rfl
theorem eX1_numberText_26  : WP (MX1_numberText g) Q (26, [l0, l1, l2], .ref p :: st, w, k, n) = (go (rd g w p) 1 (fun _ => True) ∧ wt st ≤ 8 ∧ k + 2 ≤ 8 ∧ n + 94 ≤ 366 ∧ WP (MJ4_toString_0e30d g) (kx (fun v w' => WP (MX1_numberText g) Q (29, [l0, l1, l2], v.toList ++ st, w', k + 2, n + 94)) (fun E w' => Q (.inr E) w')) (0, [some (.ref p)], [], w, 0, 0)) := csV0 (M := (MX1_numberText g)) (mc := (fun _ _ => 2)) (ms := (fun _ _ => 94)) (As := []) (rest := st) (MJ4_toString_0e30d g) rfl rfl rfl (dt_q dX1_numberText_0_D 14 rfl) rfl rfl rfl rfl rfl rfl
theorem eX1_numberText_29 : WP (MX1_numberText g) Q (29, [l0, l1, l2], [.ref p], w, k, n) = (k ≤ 8 ∧ n ≤ 366 ∧ Q (.inl (some (.ref p))) w) := aretR_e rfl (dt_q dX1_numberText_0_D 15 rfl) rfl
theorem eX1_numberText_29N : WP (MX1_numberText g) Q (29, [l0, l1, l2], [.null], w, k, n) = (k ≤ 8 ∧ n ≤ 366 ∧ Q (.inl (some .null)) w) := aretN_e rfl (dt_q dX1_numberText_0_D 15 rfl) rfl
end
theorem wk_499 : (.classLink RX1 64 RJ4 : Jvm.Cond) ∈ WS := WS_t2 201 rfl rfl
theorem vN_RX1_64 : vNew RX1 64 1 [.null, .int 0, .int 0, .int 0] := ⟨RJ4, TJ4, tyJ4, rfl, iW_1, tyJ4_ok, wk_499, wk_500, wk_75, fun j hj => by match j, hj with | 0, _ => rfl | 1, _ => rfl | 2, _ => rfl | 3, _ => rfl | j + 4, hj => exact absurd hj (Nat.not_lt.mpr (Nat.le_add_left _ _))⟩
theorem wk_501 : (.methodLink RX1 66 yJ4_init_da8c8 : Jvm.Cond) ∈ WS := WS_t2 203 rfl rfl
theorem wk_532 : (.code yX1_appendBackwards cX1_appendBackwards 6 (none) : Jvm.Cond) ∈ WS := WS_t2 234 rfl rfl
theorem wk_530 : (.methodLink RX1 67 yX1_appendBackwards : Jvm.Cond) ∈ WS := WS_t2 232 rfl rfl
theorem wk_531 : (.static yX1_appendBackwards : Jvm.Cond) ∈ WS := WS_t2 233 rfl rfl
theorem wk_669 : (.code yJ4_reverse_43fcb cJ4_reverse_43fcb 1 (some (.object "java/lang/StringBuilder")) : Jvm.Cond) ∈ WS := WS_t3 131 rfl rfl
theorem wk_666 : (.methodLink RX1 71 yJ4_reverse_43fcb : Jvm.Cond) ∈ WS := WS_t3 128 rfl rfl
theorem wk_667 : (.instanceMethod yJ4_reverse_43fcb : Jvm.Cond) ∈ WS := WS_t3 129 rfl rfl
theorem wk_668 : (.selects RJ4 yJ4_reverse_43fcb yJ4_reverse_43fcb : Jvm.Cond) ∈ WS := WS_t3 130 rfl rfl
theorem wk_700 : (.methodLink RX1 75 yJ4_toString_0e30d : Jvm.Cond) ∈ WS := WS_t3 162 rfl rfl
theorem kc_137 {l : Launch} (hl : l.stackTraces = false) {G : GT} {own : String} {i : Nat} (hw : Jvm.Cond.methodLink own i yX1_appendBackwards ∈ WS) : vCal l G own i (0, 2, 0, 6, (fun _ _ => 3), (fun _ _ => 246), yX1_appendBackwards, spOf (MX1_appendBackwards (gg G))) := ⟨cX1_appendBackwards, 6, none, fun y hy => by subst hy; exact ⟨by decide, ⟨_, wk_532, okX1_appendBackwards hl, Or.inl ⟨Nat.ne_of_beq_eq_false rfl, rfl⟩⟩, wk_59, nc14, ⟨(by decide +kernel : (parseMethodDescriptor yX1_appendBackwards.desc).map (fun d => d.parameters.length) = some 2), hw, wk_531⟩⟩⟩
theorem kc_138 {l : Launch} (hl : l.stackTraces = false) {G : GT} {own : String} {i : Nat} (hw : Jvm.Cond.methodLink own i yJ4_reverse_43fcb ∈ WS) : vCal l G own i (2, 1, 1, 3, (fun _ _ => 0), (fun _ _ => 0), yJ4_reverse_43fcb, spOf (MJ4_reverse_43fcb (gg G))) := ⟨cJ4_reverse_43fcb, 1, some (.object "java/lang/StringBuilder"), fun y hy => by subst hy; exact ⟨by decide, ⟨_, wk_669, okJ4_reverse_43fcb hl, Or.inl ⟨Nat.ne_of_beq_eq_false rfl, rfl⟩⟩, wk_75, nc12, ⟨(by decide +kernel : (parseMethodDescriptor yJ4_reverse_43fcb.desc).map (fun d => d.parameters.length + 1) = some 1), hw, wk_667, wk_668, (RJ4, TJ4, 4), rfl, rfl⟩⟩⟩
theorem vMX1_numberText {l : Launch} (hl : l.stackTraces = false) (G : GT) : vM l G (MX1_numberText (gg G)) := vM_k RX1 cX1_numberText rfl rfl (all_c (vF_RX1_9) (all_n)) (all_c (vN_RX1_64) (all_n)) all_n all_n all_n (fun h => absurd rfl h) (all_c (kc_116 hl wk_353) (all_c (kc_43 hl wk_501) (all_c (kc_137 hl wk_530) (all_c (kc_138 hl wk_666) (all_c (kc_46 hl wk_700) (all_n)))))) all_n all_n (fun h => absurd rfl h) rfl all_n
theorem okX1_numberText {l : Launch} (hl : l.stackTraces = false) {G : GT} : ∀ (args : List Value) (w : Hw) (S : Ot → Hw → Prop), spOf (MX1_numberText (gg G)) args w S → CX l G yX1_numberText (.code yX1_numberText cX1_numberText 3 (some (.object "java/lang/String"))) 7 8 366 args w S := CX_sp (M := MX1_numberText (gg G)) (y := yX1_numberText) hl (by decide) rfl (vMX1_numberText hl G) (fun h => by cases h) rfl
abbrev dX1_cardText_0_T : List (Nat × Instr × Nat) := [(0, .iload_n 1, 1), (1, .invokestatic 79, 3), (4, .aload_n 0, 1), (5, .getfield 15, 3), (8, .iload_n 1, 1), (9, .aaload, 1), (10, .astore_n 2, 1), (11, .aload_n 2, 1), (12, .ifnonnull 6, 3), (15, .ldc 144, 2), (17, .areturn, 1), (18, .new 64, 3), (21, .dup, 1), (22, .invokespecial 66, 3), (25, .astore_n 3, 1), (26, .iconst 3, 1), (27, .istore 4, 2), (29, .iload 4, 2), (31, .ifCond .lt 31, 3), (34, .aload_n 3, 1), (35, .aload_n 2, 1), (36, .iload 4, 2), (38, .invokevirtual 141, 3), (41, .invokestatic 67, 3), (44, .iload 4, 2), (46, .ifCond .le 10, 3), (49, .aload_n 3, 1), (50, .bipush 32, 2), (52, .invokevirtual 146, 3), (55, .pop, 1), (56, .iinc 4 (-1), 3), (59, .goto (-30), 3), (62, .aload_n 3, 1), (63, .invokevirtual 71, 3), (66, .invokevirtual 75, 3), (69, .areturn, 1)]
theorem dX1_cardText_0_D : dtc cX1_cardText dX1_cardText_0_T = true := by decide +kernel
def MX1_cardText (g : RO) : MT := ((RX1, cX1_cardText, 5, 7, 19, 1530, false, some (.object "java/lang/String")), [(15, 5, 1)], [(64, 1, [.null, .int 0, .int 0, .int 0])], [], [], [], 0, [(79, 0, 1, 0, 6, (fun _ _ => 1), (fun _ _ => 6), yX1_needCard, spOf (MX1_needCard g)), (66, 4, 1, 1, 2, (fun _ _ => 1), (fun _ _ => 16), yJ4_init_da8c8, spOf (MJ4_init_da8c8 g)), (141, 3, 2, 4, 1, (fun _ _ => 0), (fun _ _ => 0), yX0_endAt, spOf (MX0_endAt g)), (67, 0, 2, 0, 6, (fun _ _ => 3), (fun _ _ => 246), yX1_appendBackwards, spOf (MX1_appendBackwards g)), (146, 2, 2, 1, 5, kfI, sfI, yJ4_append_cf468, spF (MJ4_append_cf468 g) kfI sfI), (71, 2, 1, 1, 3, (fun _ _ => 0), (fun _ _ => 0), yJ4_reverse_43fcb, spOf (MJ4_reverse_43fcb g)), (75, 2, 1, 1, 6, (fun _ _ => 2), (fun _ _ => 94), yJ4_toString_0e30d, spOf (MJ4_toString_0e30d g))], [(144, 20)], [], 0, [], [], g)
section
variable {g : RO} {Q : Ot → Hw → Prop} {st : List Value} {w : Hw} {k n p q : Nat} {a b : Int32} {x y : Int64} {u v : Value} {l0 l1 l2 l3 l4 : Option Value}
theorem eX1_cardText_0 : WP (MX1_cardText g) Q (0, [l0, some (.int a), l2, l3, l4], st, w, k, n) = WP (MX1_cardText g) Q (1, [l0, some (.int a), l2, l3, l4], .int a :: st, w, k, n) := iln_e rfl (dt_q dX1_cardText_0_D 0 rfl) rfl
theorem eX1_cardText_1 {z0 : Int32} : WP (MX1_cardText g) Q (1, [l0, l1, l2, l3, l4], .int z0 :: st, w, k, n) = (wt st ≤ 8 ∧ k + 1 ≤ 19 ∧ n + 6 ≤ 1530 ∧ WP (MX1_needCard g) (kx (fun v w' => WP (MX1_cardText g) Q (4, [l0, l1, l2, l3, l4], v.toList ++ st, w', k + 1, n + 6)) (fun E w' => Q (.inr E) w')) (0, [some (.int z0)], [], w, 0, 0)) := csS (M := (MX1_cardText g)) (mc := (fun _ _ => 1)) (ms := (fun _ _ => 6)) (As := [.int z0]) (rest := st) (MX1_needCard g) rfl rfl (dt_q dX1_cardText_0_D 1 rfl) (Nat.ne_of_beq_eq_false rfl) (by exact fun h => nomatch (show (none : Option Nat) = some 12 from h)) (by exact fun h => nomatch (show (none : Option Nat) = some 13 from h)) (by exact fun h => nomatch (show (none : Option Nat) = some 14 from h)) rfl rfl (by decide) (Nat.le_of_ble_eq_true rfl) (Nat.le_of_ble_eq_true rfl) rfl
theorem eX1_cardText_4 : WP (MX1_cardText g) Q (4, [some (.ref p), l1, l2, l3, l4], st, w, k, n) = WP (MX1_cardText g) Q (5, [some (.ref p), l1, l2, l3, l4], .ref p :: st, w, k, n) := alnR_e rfl (dt_q dX1_cardText_0_D 2 rfl) rfl
theorem eX1_cardText_4N : WP (MX1_cardText g) Q (4, [some .null, l1, l2, l3, l4], st, w, k, n) = WP (MX1_cardText g) Q (5, [some .null, l1, l2, l3, l4], .null :: st, w, k, n) := alnN_e rfl (dt_q dX1_cardText_0_D 2 rfl) rfl
theorem eX1_cardText_5 : WP (MX1_cardText g) Q (5, [l0, l1, l2, l3, l4], .ref p :: st, w, k, n) = go (rd g w p) 5 fun fs => ∃ v, fs[1]? = some v ∧ WP (MX1_cardText g) Q (8, [l0, l1, l2, l3, l4], v :: st, w, k, n) := get_e rfl (dt_q dX1_cardText_0_D 3 rfl) rfl
theorem eX1_cardText_8 : WP (MX1_cardText g) Q (8, [l0, some (.int a), l2, l3, l4], st, w, k, n) = WP (MX1_cardText g) Q (9, [l0, some (.int a), l2, l3, l4], .int a :: st, w, k, n) := iln_e rfl (dt_q dX1_cardText_0_D 4 rfl) rfl
theorem eX1_cardText_9 : WP (MX1_cardText g) Q (9, [l0, l1, l2, l3, l4], .int a :: .ref p :: st, w, k, n) = gq (rd g w p) fun t N f => (t = 4 ∨ t = 5) ∧ vp_in a N ∧ WP (MX1_cardText g) Q (10, [l0, l1, l2, l3, l4], va_rf (f a.toNatClampNeg) :: st, w, k, n) := aaload_e rfl (dt_q dX1_cardText_0_D 5 rfl)
theorem eX1_cardText_10 : WP (MX1_cardText g) Q (10, [l0, l1, l2, l3, l4], .ref p :: st, w, k, n) = WP (MX1_cardText g) Q (11, [l0, nl l1, some (.ref p), l3, l4], st, w, k, n) := asnR_e rfl (dt_q dX1_cardText_0_D 6 rfl) rfl rfl
theorem eX1_cardText_10N : WP (MX1_cardText g) Q (10, [l0, l1, l2, l3, l4], .null :: st, w, k, n) = WP (MX1_cardText g) Q (11, [l0, nl l1, some (.null), l3, l4], st, w, k, n) := asnN_e rfl (dt_q dX1_cardText_0_D 6 rfl) rfl rfl
theorem eX1_cardText_11 : WP (MX1_cardText g) Q (11, [l0, l1, some (.ref p), l3, l4], st, w, k, n) = WP (MX1_cardText g) Q (12, [l0, l1, some (.ref p), l3, l4], .ref p :: st, w, k, n) := alnR_e rfl (dt_q dX1_cardText_0_D 7 rfl) rfl
theorem eX1_cardText_11N : WP (MX1_cardText g) Q (11, [l0, l1, some .null, l3, l4], st, w, k, n) = WP (MX1_cardText g) Q (12, [l0, l1, some .null, l3, l4], .null :: st, w, k, n) := alnN_e rfl (dt_q dX1_cardText_0_D 7 rfl) rfl
theorem eX1_cardText_12R : WP (MX1_cardText g) Q (12, [l0, l1, l2, l3, l4], .ref p :: st, w, k, n) = WP (MX1_cardText g) Q (18, [l0, l1, l2, l3, l4], st, w, k, n) := ifnonnullR_e rfl (dt_q dX1_cardText_0_D 8 rfl) (tgt := 18) (by decide)
theorem eX1_cardText_12N : WP (MX1_cardText g) Q (12, [l0, l1, l2, l3, l4], .null :: st, w, k, n) = WP (MX1_cardText g) Q (15, [l0, l1, l2, l3, l4], st, w, k, n) := ifnonnullN_e rfl (dt_q dX1_cardText_0_D 8 rfl) (tgt := 18) (by decide)
theorem eX1_cardText_15 : WP (MX1_cardText g) Q (15, [l0, l1, l2, l3, l4], st, w, k, n) = WP (MX1_cardText g) Q (17, [l0, l1, l2, l3, l4], g.1 20 :: st, w, k, n) := ldc_e rfl (dt_q dX1_cardText_0_D 9 rfl) rfl (by decide) rfl
theorem eX1_cardText_17 : WP (MX1_cardText g) Q (17, [l0, l1, l2, l3, l4], [.ref p], w, k, n) = (k ≤ 19 ∧ n ≤ 1530 ∧ Q (.inl (some (.ref p))) w) := aretR_e rfl (dt_q dX1_cardText_0_D 10 rfl) rfl
theorem eX1_cardText_17N : WP (MX1_cardText g) Q (17, [l0, l1, l2, l3, l4], [.null], w, k, n) = (k ≤ 19 ∧ n ≤ 1530 ∧ Q (.inl (some .null)) w) := aretN_e rfl (dt_q dX1_cardText_0_D 10 rfl) rfl
theorem eX1_cardText_18 : WP (MX1_cardText g) Q (18, [l0, l1, l2, l3, l4], st, w, k, n) = (k + 1 ≤ 19 ∧ n + 4 ≤ 1530 ∧ ∀ q : Nat, rd g w q = none → WP (MX1_cardText g) Q (21, [l0, l1, l2, l3, l4], .ref q :: st, upw w q (.inr (1, [.null, .int 0, .int 0, .int 0])), k + 1, n + 4)) := Eq.trans (new_e (M := (MX1_cardText g)) (fs := [.null, .int 0, .int 0, .int 0]) rfl (dt_q dX1_cardText_0_D 11 rfl) rfl) rfl
theorem eX1_cardText_21 : WP (MX1_cardText g) Q (21, [l0, l1, l2, l3, l4], .int a :: st, w, k, n) = WP (MX1_cardText g) Q (22, [l0, l1, l2, l3, l4], .int a :: .int a :: st, w, k, n) := dupI_e rfl (dt_q dX1_cardText_0_D 12 rfl)
theorem eX1_cardText_21R : WP (MX1_cardText g) Q (21, [l0, l1, l2, l3, l4], .ref p :: st, w, k, n) = WP (MX1_cardText g) Q (22, [l0, l1, l2, l3, l4], .ref p :: .ref p :: st, w, k, n) := dupR_e rfl (dt_q dX1_cardText_0_D 12 rfl)
theorem eX1_cardText_22  : WP (MX1_cardText g) Q (22, [l0, l1, l2, l3, l4], .ref p :: st, w, k, n) = (wt st ≤ 8 ∧ k + 1 ≤ 19 ∧ n + 16 ≤ 1530 ∧ WP (MJ4_init_da8c8 g) (kx (fun v w' => WP (MX1_cardText g) Q (25, [l0, l1, l2, l3, l4], v.toList ++ st, w', k + 1, n + 16)) (fun E w' => Q (.inr E) w')) (0, [some (.ref p)], [], w, 0, 0)) := csI (M := (MX1_cardText g)) (mc := (fun _ _ => 1)) (ms := (fun _ _ => 16)) (As := []) (rest := st) (MJ4_init_da8c8 g) rfl rfl (dt_q dX1_cardText_0_D 13 rfl) (Nat.ne_of_beq_eq_false rfl) rfl rfl (Nat.le_of_ble_eq_true rfl) (Nat.le_of_ble_eq_true rfl) rfl
theorem eX1_cardText_25 : WP (MX1_cardText g) Q (25, [l0, l1, l2, l3, l4], .ref p :: st, w, k, n) = WP (MX1_cardText g) Q (26, [l0, l1, nl l2, some (.ref p), l4], st, w, k, n) := asnR_e rfl (dt_q dX1_cardText_0_D 14 rfl) rfl rfl
theorem eX1_cardText_25N : WP (MX1_cardText g) Q (25, [l0, l1, l2, l3, l4], .null :: st, w, k, n) = WP (MX1_cardText g) Q (26, [l0, l1, nl l2, some (.null), l4], st, w, k, n) := asnN_e rfl (dt_q dX1_cardText_0_D 14 rfl) rfl rfl
theorem eX1_cardText_26 : WP (MX1_cardText g) Q (26, [l0, l1, l2, l3, l4], st, w, k, n) = WP (MX1_cardText g) Q (27, [l0, l1, l2, l3, l4], .int 3 :: st, w, k, n) := ic_3 rfl (dt_q dX1_cardText_0_D 15 rfl)
theorem eX1_cardText_27 : WP (MX1_cardText g) Q (27, [l0, l1, l2, l3, l4], .int a :: st, w, k, n) = WP (MX1_cardText g) Q (29, [l0, l1, l2, nl l3, some (.int a)], st, w, k, n) := is_e rfl (dt_q dX1_cardText_0_D 16 rfl) rfl rfl
theorem eX1_cardText_29 : WP (MX1_cardText g) Q (29, [l0, l1, l2, l3, some (.int a)], st, w, k, n) = WP (MX1_cardText g) Q (31, [l0, l1, l2, l3, some (.int a)], .int a :: st, w, k, n) := il_e rfl (dt_q dX1_cardText_0_D 17 rfl) rfl
theorem eX1_cardText_31 : WP (MX1_cardText g) Q (31, [l0, l1, l2, l3, l4], .int a :: st, w, k, n) = if a < 0 then WP (MX1_cardText g) Q (62, [l0, l1, l2, l3, l4], st, w, k, n) else WP (MX1_cardText g) Q (34, [l0, l1, l2, l3, l4], st, w, k, n) := ifc_e (a < 0) rfl (dt_q dX1_cardText_0_D 18 rfl) rfl (by decide)
theorem eX1_cardText_34 : WP (MX1_cardText g) Q (34, [l0, l1, l2, some (.ref p), l4], st, w, k, n) = WP (MX1_cardText g) Q (35, [l0, l1, l2, some (.ref p), l4], .ref p :: st, w, k, n) := alnR_e rfl (dt_q dX1_cardText_0_D 19 rfl) rfl
theorem eX1_cardText_34N : WP (MX1_cardText g) Q (34, [l0, l1, l2, some .null, l4], st, w, k, n) = WP (MX1_cardText g) Q (35, [l0, l1, l2, some .null, l4], .null :: st, w, k, n) := alnN_e rfl (dt_q dX1_cardText_0_D 19 rfl) rfl
theorem eX1_cardText_35 : WP (MX1_cardText g) Q (35, [l0, l1, some (.ref p), l3, l4], st, w, k, n) = WP (MX1_cardText g) Q (36, [l0, l1, some (.ref p), l3, l4], .ref p :: st, w, k, n) := alnR_e rfl (dt_q dX1_cardText_0_D 20 rfl) rfl
theorem eX1_cardText_35N : WP (MX1_cardText g) Q (35, [l0, l1, some .null, l3, l4], st, w, k, n) = WP (MX1_cardText g) Q (36, [l0, l1, some .null, l3, l4], .null :: st, w, k, n) := alnN_e rfl (dt_q dX1_cardText_0_D 20 rfl) rfl
theorem eX1_cardText_36 : WP (MX1_cardText g) Q (36, [l0, l1, l2, l3, some (.int a)], st, w, k, n) = WP (MX1_cardText g) Q (38, [l0, l1, l2, l3, some (.int a)], .int a :: st, w, k, n) := il_e rfl (dt_q dX1_cardText_0_D 21 rfl) rfl
theorem eX1_cardText_38 {z0 : Int32} : WP (MX1_cardText g) Q (38, [l0, l1, l2, l3, l4], .int z0 :: .ref p :: st, w, k, n) = (go (rd g w p) 4 (fun _ => True) ∧ wt st ≤ 8 ∧ k + 0 ≤ 19 ∧ n + 0 ≤ 1530 ∧ WP (MX0_endAt g) (kx (fun v w' => WP (MX1_cardText g) Q (41, [l0, l1, l2, l3, l4], v.toList ++ st, w', k + 0, n + 0)) (fun E w' => Q (.inr E) w')) (0, [some (.ref p), some (.int z0)], [], w, 0, 0)) := csV (M := (MX1_cardText g)) (mc := (fun _ _ => 0)) (ms := (fun _ _ => 0)) (As := [.int z0]) (rest := st) (MX0_endAt g) rfl rfl (dt_q dX1_cardText_0_D 22 rfl) (by exact fun h => nomatch (show (none : Option Nat) = some 11 from h)) (by exact fun h => nomatch (show (none : Option Nat) = some 15 from h)) rfl rfl (by decide) (Nat.le_of_ble_eq_true rfl) (Nat.le_of_ble_eq_true rfl) rfl
theorem eX1_cardText_41R {z0 : Nat} {z1 : Int64} : WP (MX1_cardText g) Q (41, [l0, l1, l2, l3, l4], .long z1 :: .ref z0 :: st, w, k, n) = (wt st ≤ 8 ∧ k + 3 ≤ 19 ∧ n + 246 ≤ 1530 ∧ WP (MX1_appendBackwards g) (kx (fun v w' => WP (MX1_cardText g) Q (44, [l0, l1, l2, l3, l4], v.toList ++ st, w', k + 3, n + 246)) (fun E w' => Q (.inr E) w')) (0, [some (.ref z0), some (.long z1), none, none, none, none], [], w, 0, 0)) := csS (M := (MX1_cardText g)) (mc := (fun _ _ => 3)) (ms := (fun _ _ => 246)) (As := [.ref z0, .long z1]) (rest := st) (MX1_appendBackwards g) rfl rfl (dt_q dX1_cardText_0_D 23 rfl) (Nat.ne_of_beq_eq_false rfl) (by exact fun h => nomatch (show (none : Option Nat) = some 12 from h)) (by exact fun h => nomatch (show (none : Option Nat) = some 13 from h)) (by exact fun h => nomatch (show (none : Option Nat) = some 14 from h)) rfl rfl (by decide) (Nat.le_of_ble_eq_true rfl) (Nat.le_of_ble_eq_true rfl) rfl
theorem eX1_cardText_41N {z1 : Int64} : WP (MX1_cardText g) Q (41, [l0, l1, l2, l3, l4], .long z1 :: .null :: st, w, k, n) = (wt st ≤ 8 ∧ k + 3 ≤ 19 ∧ n + 246 ≤ 1530 ∧ WP (MX1_appendBackwards g) (kx (fun v w' => WP (MX1_cardText g) Q (44, [l0, l1, l2, l3, l4], v.toList ++ st, w', k + 3, n + 246)) (fun E w' => Q (.inr E) w')) (0, [some .null, some (.long z1), none, none, none, none], [], w, 0, 0)) := csS (M := (MX1_cardText g)) (mc := (fun _ _ => 3)) (ms := (fun _ _ => 246)) (As := [.null, .long z1]) (rest := st) (MX1_appendBackwards g) rfl rfl (dt_q dX1_cardText_0_D 23 rfl) (Nat.ne_of_beq_eq_false rfl) (by exact fun h => nomatch (show (none : Option Nat) = some 12 from h)) (by exact fun h => nomatch (show (none : Option Nat) = some 13 from h)) (by exact fun h => nomatch (show (none : Option Nat) = some 14 from h)) rfl rfl (by decide) (Nat.le_of_ble_eq_true rfl) (Nat.le_of_ble_eq_true rfl) rfl
theorem eX1_cardText_44 : WP (MX1_cardText g) Q (44, [l0, l1, l2, l3, some (.int a)], st, w, k, n) = WP (MX1_cardText g) Q (46, [l0, l1, l2, l3, some (.int a)], .int a :: st, w, k, n) := il_e rfl (dt_q dX1_cardText_0_D 24 rfl) rfl
theorem eX1_cardText_46 : WP (MX1_cardText g) Q (46, [l0, l1, l2, l3, l4], .int a :: st, w, k, n) = if a ≤ 0 then WP (MX1_cardText g) Q (56, [l0, l1, l2, l3, l4], st, w, k, n) else WP (MX1_cardText g) Q (49, [l0, l1, l2, l3, l4], st, w, k, n) := ifc_e (a ≤ 0) rfl (dt_q dX1_cardText_0_D 25 rfl) rfl (by decide)
theorem eX1_cardText_49 : WP (MX1_cardText g) Q (49, [l0, l1, l2, some (.ref p), l4], st, w, k, n) = WP (MX1_cardText g) Q (50, [l0, l1, l2, some (.ref p), l4], .ref p :: st, w, k, n) := alnR_e rfl (dt_q dX1_cardText_0_D 26 rfl) rfl
theorem eX1_cardText_49N : WP (MX1_cardText g) Q (49, [l0, l1, l2, some .null, l4], st, w, k, n) = WP (MX1_cardText g) Q (50, [l0, l1, l2, some .null, l4], .null :: st, w, k, n) := alnN_e rfl (dt_q dX1_cardText_0_D 26 rfl) rfl
theorem eX1_cardText_50 : WP (MX1_cardText g) Q (50, [l0, l1, l2, l3, l4], st, w, k, n) = WP (MX1_cardText g) Q (52, [l0, l1, l2, l3, l4], .int 32 :: st, w, k, n) := bipush_e rfl (dt_q dX1_cardText_0_D 27 rfl) (by decide)
theorem eX1_cardText_52 {z0 : Int32} : WP (MX1_cardText g) Q (52, [l0, l1, l2, l3, l4], .int z0 :: .ref p :: st, w, k, n) = (go (rd g w p) 1 (fun _ => True) ∧ wt st ≤ 8 ∧ k + kfI [.ref p, .int z0] w ≤ 19 ∧ n + sfI [.ref p, .int z0] w ≤ 1530 ∧ WP (MJ4_append_cf468 g (kfI [.ref p, .int z0] w) (sfI [.ref p, .int z0] w)) (kx (fun v w' => WP (MX1_cardText g) Q (55, [l0, l1, l2, l3, l4], v.toList ++ st, w', k + kfI [.ref p, .int z0] w, n + sfI [.ref p, .int z0] w)) (fun E w' => Q (.inr E) w')) (0, [some (.ref p), some (.int z0)], [], w, 0, 0)) := csV (M := (MX1_cardText g)) (mc := kfI) (ms := sfI) (As := [.int z0]) (rest := st) (MJ4_append_cf468 g (kfI [.ref p, .int z0] w) (sfI [.ref p, .int z0] w)) rfl rfl (dt_q dX1_cardText_0_D 28 rfl) (by exact fun h => nomatch (show (none : Option Nat) = some 11 from h)) (by exact fun h => nomatch (show (none : Option Nat) = some 15 from h)) rfl rfl (by decide) (Nat.le_of_ble_eq_true rfl) (Nat.le_of_ble_eq_true rfl) rfl
theorem eX1_cardText_55 : WP (MX1_cardText g) Q (55, [l0, l1, l2, l3, l4], .int a :: st, w, k, n) = WP (MX1_cardText g) Q (56, [l0, l1, l2, l3, l4], st, w, k, n) := popI_e rfl (dt_q dX1_cardText_0_D 29 rfl)
theorem eX1_cardText_55R : WP (MX1_cardText g) Q (55, [l0, l1, l2, l3, l4], .ref p :: st, w, k, n) = WP (MX1_cardText g) Q (56, [l0, l1, l2, l3, l4], st, w, k, n) := popR_e rfl (dt_q dX1_cardText_0_D 29 rfl)
theorem eX1_cardText_55N : WP (MX1_cardText g) Q (55, [l0, l1, l2, l3, l4], .null :: st, w, k, n) = WP (MX1_cardText g) Q (56, [l0, l1, l2, l3, l4], st, w, k, n) := popN_e rfl (dt_q dX1_cardText_0_D 29 rfl)
theorem eX1_cardText_56 : WP (MX1_cardText g) Q (56, [l0, l1, l2, l3, some (.int a)], st, w, k, n) = WP (MX1_cardText g) Q (59, [l0, l1, l2, nl l3, some (.int (a + (-1)))], st, w, k, n) := Eq.trans (iinc_e (M := (MX1_cardText g)) (L := [l0, l1, l2, l3, some (.int a)]) (d := (-1)) rfl (dt_q dX1_cardText_0_D 30 rfl) (by decide) rfl) rfl
theorem eX1_cardText_59 : WP (MX1_cardText g) Q (59, [l0, l1, l2, l3, l4], st, w, k, n) = WP (MX1_cardText g) Q (29, [l0, l1, l2, l3, l4], st, w, k, n) := goto_e rfl (dt_q dX1_cardText_0_D 31 rfl) (by decide)
theorem eX1_cardText_62 : WP (MX1_cardText g) Q (62, [l0, l1, l2, some (.ref p), l4], st, w, k, n) = WP (MX1_cardText g) Q (63, [l0, l1, l2, some (.ref p), l4], .ref p :: st, w, k, n) := alnR_e rfl (dt_q dX1_cardText_0_D 32 rfl) rfl
theorem eX1_cardText_62N : WP (MX1_cardText g) Q (62, [l0, l1, l2, some .null, l4], st, w, k, n) = WP (MX1_cardText g) Q (63, [l0, l1, l2, some .null, l4], .null :: st, w, k, n) := alnN_e rfl (dt_q dX1_cardText_0_D 32 rfl) rfl
theorem eX1_cardText_63  : WP (MX1_cardText g) Q (63, [l0, l1, l2, l3, l4], .ref p :: st, w, k, n) = (go (rd g w p) 1 (fun _ => True) ∧ wt st ≤ 8 ∧ k + 0 ≤ 19 ∧ n + 0 ≤ 1530 ∧ WP (MJ4_reverse_43fcb g) (kx (fun v w' => WP (MX1_cardText g) Q (66, [l0, l1, l2, l3, l4], v.toList ++ st, w', k + 0, n + 0)) (fun E w' => Q (.inr E) w')) (0, [some (.ref p)], [], w, 0, 0)) := csV (M := (MX1_cardText g)) (mc := (fun _ _ => 0)) (ms := (fun _ _ => 0)) (As := []) (rest := st) (MJ4_reverse_43fcb g) rfl rfl (dt_q dX1_cardText_0_D 33 rfl) (by exact fun h => nomatch (show (none : Option Nat) = some 11 from h)) (by exact fun h => nomatch (show (none : Option Nat) = some 15 from h)) rfl rfl (by decide) (Nat.le_of_ble_eq_true rfl) (Nat.le_of_ble_eq_true rfl) rfl
theorem eX1_cardText_66  : WP (MX1_cardText g) Q (66, [l0, l1, l2, l3, l4], .ref p :: st, w, k, n) = (go (rd g w p) 1 (fun _ => True) ∧ wt st ≤ 8 ∧ k + 2 ≤ 19 ∧ n + 94 ≤ 1530 ∧ WP (MJ4_toString_0e30d g) (kx (fun v w' => WP (MX1_cardText g) Q (69, [l0, l1, l2, l3, l4], v.toList ++ st, w', k + 2, n + 94)) (fun E w' => Q (.inr E) w')) (0, [some (.ref p)], [], w, 0, 0)) := csV (M := (MX1_cardText g)) (mc := (fun _ _ => 2)) (ms := (fun _ _ => 94)) (As := []) (rest := st) (MJ4_toString_0e30d g) rfl rfl (dt_q dX1_cardText_0_D 34 rfl) (by exact fun h => nomatch (show (none : Option Nat) = some 11 from h)) (by exact fun h => nomatch (show (none : Option Nat) = some 15 from h)) rfl rfl (by decide) (Nat.le_of_ble_eq_true rfl) (Nat.le_of_ble_eq_true rfl) rfl
theorem eX1_cardText_69 : WP (MX1_cardText g) Q (69, [l0, l1, l2, l3, l4], [.ref p], w, k, n) = (k ≤ 19 ∧ n ≤ 1530 ∧ Q (.inl (some (.ref p))) w) := aretR_e rfl (dt_q dX1_cardText_0_D 35 rfl) rfl
theorem eX1_cardText_69N : WP (MX1_cardText g) Q (69, [l0, l1, l2, l3, l4], [.null], w, k, n) = (k ≤ 19 ∧ n ≤ 1530 ∧ Q (.inl (some .null)) w) := aretN_e rfl (dt_q dX1_cardText_0_D 35 rfl) rfl
end
theorem vMX1_cardText {l : Launch} (hl : l.stackTraces = false) (G : GT) : vM l G (MX1_cardText (gg G)) := vM_k RX1 cX1_cardText rfl rfl (all_c (vF_RX1_15) (all_n)) (all_c (vN_RX1_64) (all_n)) all_n all_n all_n (fun h => absurd rfl h) (all_c (kc_78 hl wk_816) (all_c (kc_43 hl wk_501) (all_c (kc_84 hl (⟨"Rangecard", tm_1 (List.mem_of_getElem? (i := 150) rfl)⟩)) (all_c (kc_137 hl wk_530) (all_c (kc_136 hl wk_625) (all_c (kc_138 hl wk_666) (all_c (kc_46 hl wk_700) (all_n)))))))) (all_c (Or.inr (Or.inl ⟨"-", by decide⟩)) (all_n)) all_n (fun h => absurd rfl h) rfl all_n
theorem okX1_cardText {l : Launch} (hl : l.stackTraces = false) {G : GT} : ∀ (args : List Value) (w : Hw) (S : Ot → Hw → Prop), spOf (MX1_cardText (gg G)) args w S → CX l G yX1_cardText (.code yX1_cardText cX1_cardText 5 (some (.object "java/lang/String"))) 7 19 1530 args w S := CX_sp (M := MX1_cardText (gg G)) (y := yX1_cardText) hl (by decide) rfl (vMX1_cardText hl G) (fun h => by cases h) rfl
end
/-! 67.21.range.lean.txt -/
section
section
variable {g : RO} {Q : Ot → Hw → Prop} {w0 w : Hw} {x nA cA lA : Nat} {kn : Int32}
set_option maxHeartbeats 4000000 in
theorem sX0_isInOrder {a0 : Int64} {a1 : Int64} {a2 : Int64} {a3 : Int64} (hQ : ∀ v : Bool, Q (.inl (some (.int (bI v)))) w) : WP (MX0_isInOrder g) Q (0, [some (.long a0), none, some (.long a1), none, some (.long a2), none, some (.long a3), none], [], w, 0, 0) := by
  have hQt : Q (.inl (some (.int 1))) w := hQ true
  have hQf : Q (.inl (some (.int 0))) w := hQ false
  repeat' first
    | with_reducible assumption
    | with_reducible refine And.intro ?_ ?_
    | with_reducible exact vpi6 (by assumption) (by assumption)
    | with_reducible exact vpi8 (by assumption) (by assumption)
    | with_reducible refine go_R (by assumption) ?_
    | with_reducible exact hQ _
    | with_reducible exact hQt
    | with_reducible exact hQf
    | simp only [eX0_isInOrder_0, eX0_isInOrder_1, eX0_isInOrder_2, eX0_isInOrder_3, eX0_isInOrder_6, eX0_isInOrder_8, eX0_isInOrder_10, eX0_isInOrder_11, eX0_isInOrder_14, eX0_isInOrder_15, eX0_isInOrder_17, eX0_isInOrder_18, eX0_isInOrder_21, eX0_isInOrder_22, eX0_isInOrder_24, eX0_isInOrder_25, eX0_isInOrder_28, eX0_isInOrder_29, eX0_isInOrder_32, eX0_isInOrder_33, ite_le, n45, n54, true_or, or_true, false_or, or_false, false_and, and_false, kx_l, kx_r, go_s, gl_s, gi_s, gb_s2, gb_s3, gq_s, wt_nil, wt_int, wt_long, wt_ref, wt_null, nl_int, nl_long, nl_ref, nl_null, nl_none, rf_n, rf_s, rf_st, tl_s, tl_n, g0, gS, ex1, nb_b, nb_0, nb_1, nf_i, nf_l, nf_ra, nf_ro, nf_na, nf_no, nf_b0, nf_z0, t45_4, t45_5, true_and, and_true, List.set_cons_zero, List.set_cons_succ, List.length_cons, List.length_nil, rd_s, upw_s, ne_eq, not_false_eq_true, Nat.zero_add, Nat.add_zero]
    | split
    | with_reducible intro _
    | omega
set_option maxHeartbeats 4000000 in
theorem sX0_holds {p : Nat} {a0 : Int64} (hp : isR w p) (hQ : ∀ v : Bool, Q (.inl (some (.int (bI v)))) w) : WP (MX0_holds g) Q (0, [some (.ref p), some (.long a0), none], [], w, 0, 0) := by
  have hQt : Q (.inl (some (.int 1))) w := hQ true
  have hQf : Q (.inl (some (.int 0))) w := hQ false
  repeat' first
    | with_reducible assumption
    | with_reducible refine And.intro ?_ ?_
    | with_reducible exact vpi6 (by assumption) (by assumption)
    | with_reducible exact vpi8 (by assumption) (by assumption)
    | with_reducible refine go_R (by assumption) ?_
    | with_reducible exact hQ _
    | with_reducible exact hQt
    | with_reducible exact hQf
    | simp only [eX0_holds_0, eX0_holds_0N, eX0_holds_1, eX0_holds_4, eX0_holds_5, eX0_holds_6, eX0_holds_9, eX0_holds_10, eX0_holds_10N, eX0_holds_11, eX0_holds_14, eX0_holds_15, eX0_holds_18, eX0_holds_19, eX0_holds_22, eX0_holds_23, ite_le, n45, n54, true_or, or_true, false_or, or_false, false_and, and_false, kx_l, kx_r, go_s, gl_s, gi_s, gb_s2, gb_s3, gq_s, wt_nil, wt_int, wt_long, wt_ref, wt_null, nl_int, nl_long, nl_ref, nl_null, nl_none, rf_n, rf_s, rf_st, tl_s, tl_n, g0, gS, ex1, nb_b, nb_0, nb_1, nf_i, nf_l, nf_ra, nf_ro, nf_na, nf_no, nf_b0, nf_z0, t45_4, t45_5, true_and, and_true, List.set_cons_zero, List.set_cons_succ, List.length_cons, List.length_nil, rd_s, upw_s, ne_eq, not_false_eq_true, Nat.zero_add, Nat.add_zero]
    | split
    | with_reducible intro _
    | omega
set_option maxHeartbeats 4000000 in
theorem sX0_fitsSmall {p : Nat} (hp : isR w p) (hQ : ∀ v : Bool, Q (.inl (some (.int (bI v)))) w) : WP (MX0_fitsSmall g) Q (0, [some (.ref p)], [], w, 0, 0) := by
  have hQt : Q (.inl (some (.int 1))) w := hQ true
  have hQf : Q (.inl (some (.int 0))) w := hQ false
  repeat' first
    | with_reducible assumption
    | with_reducible refine And.intro ?_ ?_
    | with_reducible exact vpi6 (by assumption) (by assumption)
    | with_reducible exact vpi8 (by assumption) (by assumption)
    | with_reducible refine go_R (by assumption) ?_
    | with_reducible exact hQ _
    | with_reducible exact hQt
    | with_reducible exact hQf
    | simp only [eX0_fitsSmall_0, eX0_fitsSmall_0N, eX0_fitsSmall_1, eX0_fitsSmall_4, eX0_fitsSmall_7, eX0_fitsSmall_8, eX0_fitsSmall_11, eX0_fitsSmall_11N, eX0_fitsSmall_12, eX0_fitsSmall_15, eX0_fitsSmall_18, eX0_fitsSmall_19, eX0_fitsSmall_22, eX0_fitsSmall_23, eX0_fitsSmall_26, eX0_fitsSmall_27, ite_le, n45, n54, true_or, or_true, false_or, or_false, false_and, and_false, kx_l, kx_r, go_s, gl_s, gi_s, gb_s2, gb_s3, gq_s, wt_nil, wt_int, wt_long, wt_ref, wt_null, nl_int, nl_long, nl_ref, nl_null, nl_none, rf_n, rf_s, rf_st, tl_s, tl_n, g0, gS, ex1, nb_b, nb_0, nb_1, nf_i, nf_l, nf_ra, nf_ro, nf_na, nf_no, nf_b0, nf_z0, t45_4, t45_5, true_and, and_true, List.set_cons_zero, List.set_cons_succ, List.length_cons, List.length_nil, rd_s, upw_s, ne_eq, not_false_eq_true, Nat.zero_add, Nat.add_zero]
    | split
    | with_reducible intro _
    | omega
set_option maxHeartbeats 4000000 in
theorem sX0_holdsAsSmall {p : Nat} {a0 : Int64} (hp : isR w p) (hQ : ∀ v : Bool, Q (.inl (some (.int (bI v)))) w) : WP (MX0_holdsAsSmall g) Q (0, [some (.ref p), some (.long a0), none], [], w, 0, 0) := by
  have hQt : Q (.inl (some (.int 1))) w := hQ true
  have hQf : Q (.inl (some (.int 0))) w := hQ false
  repeat' first
    | with_reducible assumption
    | with_reducible refine And.intro ?_ ?_
    | with_reducible exact vpi6 (by assumption) (by assumption)
    | with_reducible exact vpi8 (by assumption) (by assumption)
    | with_reducible refine sX0_fitsSmall (by first | assumption | exact hgc _ _ (by assumption) | exact hgl _ _ (by assumption) | exact isR.ext (by assumption) (by assumption)) ?_
    | with_reducible refine sX0_holds (by first | assumption | exact hgc _ _ (by assumption) | exact hgl _ _ (by assumption) | exact isR.ext (by assumption) (by assumption)) ?_
    | with_reducible refine go_R (by assumption) ?_
    | with_reducible exact hQ _
    | with_reducible exact hQt
    | with_reducible exact hQf
    | simp only [eX0_holdsAsSmall_0, eX0_holdsAsSmall_0N, eX0_holdsAsSmall_1, eX0_holdsAsSmall_4, eX0_holdsAsSmall_7, eX0_holdsAsSmall_7N, eX0_holdsAsSmall_8, eX0_holdsAsSmall_9, eX0_holdsAsSmall_12, eX0_holdsAsSmall_15, eX0_holdsAsSmall_16, eX0_holdsAsSmall_19, eX0_holdsAsSmall_20, ite_le, n45, n54, true_or, or_true, false_or, or_false, false_and, and_false, kx_l, kx_r, go_s, gl_s, gi_s, gb_s2, gb_s3, gq_s, wt_nil, wt_int, wt_long, wt_ref, wt_null, nl_int, nl_long, nl_ref, nl_null, nl_none, rf_n, rf_s, rf_st, tl_s, tl_n, g0, gS, ex1, nb_b, nb_0, nb_1, nf_i, nf_l, nf_ra, nf_ro, nf_na, nf_no, nf_b0, nf_z0, t45_4, t45_5, true_and, and_true, List.set_cons_zero, List.set_cons_succ, List.length_cons, List.length_nil, rd_s, upw_s, ne_eq, not_false_eq_true, Nat.zero_add, Nat.add_zero]
    | split
    | with_reducible intro _
    | omega
set_option maxHeartbeats 4000000 in
theorem sX0_holdsAs {p : Nat} {a0 : Int64} {a1 : Int32} (hp : isR w p) (hQ : ∀ v : Bool, Q (.inl (some (.int (bI v)))) w) : WP (MX0_holdsAs g) Q (0, [some (.ref p), some (.long a0), none, some (.int a1)], [], w, 0, 0) := by
  have hQt : Q (.inl (some (.int 1))) w := hQ true
  have hQf : Q (.inl (some (.int 0))) w := hQ false
  repeat' first
    | with_reducible assumption
    | with_reducible refine And.intro ?_ ?_
    | with_reducible exact vpi6 (by assumption) (by assumption)
    | with_reducible exact vpi8 (by assumption) (by assumption)
    | with_reducible refine sX0_holdsAsSmall (by first | assumption | exact hgc _ _ (by assumption) | exact hgl _ _ (by assumption) | exact isR.ext (by assumption) (by assumption)) ?_
    | with_reducible refine sX0_holds (by first | assumption | exact hgc _ _ (by assumption) | exact hgl _ _ (by assumption) | exact isR.ext (by assumption) (by assumption)) ?_
    | with_reducible refine go_R (by assumption) ?_
    | with_reducible exact hQ _
    | with_reducible exact hQt
    | with_reducible exact hQf
    | simp only [eX0_holdsAs_0, eX0_holdsAs_1, eX0_holdsAs_4, eX0_holdsAs_4N, eX0_holdsAs_5, eX0_holdsAs_6, eX0_holdsAs_9, eX0_holdsAs_12, eX0_holdsAs_12N, eX0_holdsAs_13, eX0_holdsAs_14, eX0_holdsAs_17, ite_le, n45, n54, true_or, or_true, false_or, or_false, false_and, and_false, kx_l, kx_r, go_s, gl_s, gi_s, gb_s2, gb_s3, gq_s, wt_nil, wt_int, wt_long, wt_ref, wt_null, nl_int, nl_long, nl_ref, nl_null, nl_none, rf_n, rf_s, rf_st, tl_s, tl_n, g0, gS, ex1, nb_b, nb_0, nb_1, nf_i, nf_l, nf_ra, nf_ro, nf_na, nf_no, nf_b0, nf_z0, t45_4, t45_5, true_and, and_true, List.set_cons_zero, List.set_cons_succ, List.length_cons, List.length_nil, rd_s, upw_s, ne_eq, not_false_eq_true, Nat.zero_add, Nat.add_zero]
    | split
    | with_reducible intro _
    | omega
set_option maxHeartbeats 4000000 in
theorem sX0_isSettled {p : Nat} (hp : isR w p) (hQ : ∀ v : Bool, Q (.inl (some (.int (bI v)))) w) : WP (MX0_isSettled g) Q (0, [some (.ref p)], [], w, 0, 0) := by
  have hQt : Q (.inl (some (.int 1))) w := hQ true
  have hQf : Q (.inl (some (.int 0))) w := hQ false
  repeat' first
    | with_reducible assumption
    | with_reducible refine And.intro ?_ ?_
    | with_reducible exact vpi6 (by assumption) (by assumption)
    | with_reducible exact vpi8 (by assumption) (by assumption)
    | with_reducible refine go_R (by assumption) ?_
    | with_reducible exact hQ _
    | with_reducible exact hQt
    | with_reducible exact hQf
    | simp only [eX0_isSettled_0, eX0_isSettled_0N, eX0_isSettled_1, eX0_isSettled_4, eX0_isSettled_4N, eX0_isSettled_5, eX0_isSettled_8, eX0_isSettled_9, eX0_isSettled_12, eX0_isSettled_12N, eX0_isSettled_13, eX0_isSettled_16, eX0_isSettled_16N, eX0_isSettled_17, eX0_isSettled_20, eX0_isSettled_21, eX0_isSettled_24, eX0_isSettled_25, eX0_isSettled_28, eX0_isSettled_29, ite_le, n45, n54, true_or, or_true, false_or, or_false, false_and, and_false, kx_l, kx_r, go_s, gl_s, gi_s, gb_s2, gb_s3, gq_s, wt_nil, wt_int, wt_long, wt_ref, wt_null, nl_int, nl_long, nl_ref, nl_null, nl_none, rf_n, rf_s, rf_st, tl_s, tl_n, g0, gS, ex1, nb_b, nb_0, nb_1, nf_i, nf_l, nf_ra, nf_ro, nf_na, nf_no, nf_b0, nf_z0, t45_4, t45_5, true_and, and_true, List.set_cons_zero, List.set_cons_succ, List.length_cons, List.length_nil, rd_s, upw_s, ne_eq, not_false_eq_true, Nat.zero_add, Nat.add_zero]
    | split
    | with_reducible intro _
    | omega
set_option maxHeartbeats 4000000 in
theorem sX0_matchesR {p : Nat} {a0 : Nat} (hp : isR w p) (h0 : isR w a0) (hQ : ∀ v : Bool, Q (.inl (some (.int (bI v)))) w) : WP (MX0_matches g) Q (0, [some (.ref p), some (.ref a0)], [], w, 0, 0) := by
  have hQt : Q (.inl (some (.int 1))) w := hQ true
  have hQf : Q (.inl (some (.int 0))) w := hQ false
  repeat' first
    | with_reducible assumption
    | with_reducible refine And.intro ?_ ?_
    | with_reducible exact vpi6 (by assumption) (by assumption)
    | with_reducible exact vpi8 (by assumption) (by assumption)
    | with_reducible refine go_R (by assumption) ?_
    | with_reducible exact hQ _
    | with_reducible exact hQt
    | with_reducible exact hQf
    | simp only [eX0_matches_0, eX0_matches_0N, eX0_matches_1R, eX0_matches_1N, eX0_matches_4, eX0_matches_4N, eX0_matches_5, eX0_matches_8, eX0_matches_8N, eX0_matches_9, eX0_matches_12, eX0_matches_13, eX0_matches_16, eX0_matches_16N, eX0_matches_17, eX0_matches_20, eX0_matches_20N, eX0_matches_21, eX0_matches_24, eX0_matches_25, eX0_matches_28, eX0_matches_28N, eX0_matches_29, eX0_matches_32, eX0_matches_32N, eX0_matches_33, eX0_matches_36, eX0_matches_37, eX0_matches_40, eX0_matches_40N, eX0_matches_41, eX0_matches_44, eX0_matches_44N, eX0_matches_45, eX0_matches_48, eX0_matches_49, eX0_matches_52, eX0_matches_53, eX0_matches_56, eX0_matches_57, ite_le, n45, n54, true_or, or_true, false_or, or_false, false_and, and_false, kx_l, kx_r, go_s, gl_s, gi_s, gb_s2, gb_s3, gq_s, wt_nil, wt_int, wt_long, wt_ref, wt_null, nl_int, nl_long, nl_ref, nl_null, nl_none, rf_n, rf_s, rf_st, tl_s, tl_n, g0, gS, ex1, nb_b, nb_0, nb_1, nf_i, nf_l, nf_ra, nf_ro, nf_na, nf_no, nf_b0, nf_z0, t45_4, t45_5, true_and, and_true, List.set_cons_zero, List.set_cons_succ, List.length_cons, List.length_nil, rd_s, upw_s, ne_eq, not_false_eq_true, Nat.zero_add, Nat.add_zero]
    | split
    | with_reducible intro _
    | omega
set_option maxHeartbeats 4000000 in
theorem sX0_matchesN {p : Nat} (hp : isR w p) (hQ : ∀ v : Bool, Q (.inl (some (.int (bI v)))) w) : WP (MX0_matches g) Q (0, [some (.ref p), some .null], [], w, 0, 0) := by
  have hQt : Q (.inl (some (.int 1))) w := hQ true
  have hQf : Q (.inl (some (.int 0))) w := hQ false
  repeat' first
    | with_reducible assumption
    | with_reducible refine And.intro ?_ ?_
    | with_reducible exact vpi6 (by assumption) (by assumption)
    | with_reducible exact vpi8 (by assumption) (by assumption)
    | with_reducible refine go_R (by assumption) ?_
    | with_reducible exact hQ _
    | with_reducible exact hQt
    | with_reducible exact hQf
    | simp only [eX0_matches_0, eX0_matches_0N, eX0_matches_1R, eX0_matches_1N, eX0_matches_4, eX0_matches_4N, eX0_matches_5, eX0_matches_8, eX0_matches_8N, eX0_matches_9, eX0_matches_12, eX0_matches_13, eX0_matches_16, eX0_matches_16N, eX0_matches_17, eX0_matches_20, eX0_matches_20N, eX0_matches_21, eX0_matches_24, eX0_matches_25, eX0_matches_28, eX0_matches_28N, eX0_matches_29, eX0_matches_32, eX0_matches_32N, eX0_matches_33, eX0_matches_36, eX0_matches_37, eX0_matches_40, eX0_matches_40N, eX0_matches_41, eX0_matches_44, eX0_matches_44N, eX0_matches_45, eX0_matches_48, eX0_matches_49, eX0_matches_52, eX0_matches_53, eX0_matches_56, eX0_matches_57, ite_le, n45, n54, true_or, or_true, false_or, or_false, false_and, and_false, kx_l, kx_r, go_s, gl_s, gi_s, gb_s2, gb_s3, gq_s, wt_nil, wt_int, wt_long, wt_ref, wt_null, nl_int, nl_long, nl_ref, nl_null, nl_none, rf_n, rf_s, rf_st, tl_s, tl_n, g0, gS, ex1, nb_b, nb_0, nb_1, nf_i, nf_l, nf_ra, nf_ro, nf_na, nf_no, nf_b0, nf_z0, t45_4, t45_5, true_and, and_true, List.set_cons_zero, List.set_cons_succ, List.length_cons, List.length_nil, rd_s, upw_s, ne_eq, not_false_eq_true, Nat.zero_add, Nat.add_zero]
    | split
    | with_reducible intro _
    | omega
set_option maxHeartbeats 4000000 in
theorem sX0_hash {p : Nat} (hp : isR w p) (hQ : ∀ v : Int64, Q (.inl (some (.long v))) w) : WP (MX0_hash g) Q (0, [some (.ref p), none, none], [], w, 0, 0) := by
  repeat' first
    | with_reducible assumption
    | with_reducible refine And.intro ?_ ?_
    | with_reducible exact vpi6 (by assumption) (by assumption)
    | with_reducible exact vpi8 (by assumption) (by assumption)
    | with_reducible refine go_R (by assumption) ?_
    | with_reducible exact hQ _
    | simp only [eX0_hash_0, eX0_hash_0N, eX0_hash_1, eX0_hash_4, eX0_hash_5, eX0_hash_6, eX0_hash_9, eX0_hash_10, eX0_hash_10N, eX0_hash_11, eX0_hash_14, eX0_hash_15, eX0_hash_16, eX0_hash_17, eX0_hash_20, eX0_hash_21, eX0_hash_21N, eX0_hash_22, eX0_hash_25, eX0_hash_26, eX0_hash_27, eX0_hash_28, eX0_hash_31, eX0_hash_32, eX0_hash_32N, eX0_hash_33, eX0_hash_36, eX0_hash_37, ite_le, n45, n54, true_or, or_true, false_or, or_false, false_and, and_false, kx_l, kx_r, go_s, gl_s, gi_s, gb_s2, gb_s3, gq_s, wt_nil, wt_int, wt_long, wt_ref, wt_null, nl_int, nl_long, nl_ref, nl_null, nl_none, rf_n, rf_s, rf_st, tl_s, tl_n, g0, gS, ex1, nb_b, nb_0, nb_1, nf_i, nf_l, nf_ra, nf_ro, nf_na, nf_no, nf_b0, nf_z0, t45_4, t45_5, true_and, and_true, List.set_cons_zero, List.set_cons_succ, List.length_cons, List.length_nil, rd_s, upw_s, ne_eq, not_false_eq_true, Nat.zero_add, Nat.add_zero]
    | split
    | with_reducible intro _
    | omega
set_option maxHeartbeats 4000000 in
theorem sX0_ofFour {a0 a1 a2 a3 : Int64} (hN : Q (.inl (some .null)) w) (hQ : ∀ (q : Nat) (w' : Hw), ext g w w' → isR w' q → Q (.inl (some (.ref q))) w') : WP (MX0_ofFour g) Q (0, [some (.long a0), none, some (.long a1), none, some (.long a2), none, some (.long a3), none], [], w, 0, 0) := by
  repeat' first
    | with_reducible assumption
    | with_reducible refine And.intro ?_ ?_
    | with_reducible exact vpi6 (by assumption) (by assumption)
    | with_reducible exact vpi8 (by assumption) (by assumption)
    | with_reducible refine sX0_isInOrder ?_
    | with_reducible exact hQ _ _ (by assumption) (by assumption)
    | with_reducible exact hQ _ _ (by repeat' first | assumption | exact ext.rf | refine ext_up2 ?_ ?_) isR_up
    | simp only [eX0_ofFour_0, eX0_ofFour_1, eX0_ofFour_2, eX0_ofFour_4, eX0_ofFour_6, eX0_ofFour_9, eX0_ofFour_12, eX0_ofFour_15, eX0_ofFour_15R, eX0_ofFour_16, eX0_ofFour_17, eX0_ofFour_18, eX0_ofFour_20, eX0_ofFour_22, eX0_ofFour_25, eX0_ofFour_28, eX0_ofFour_29, eX0_ofFour_29N, eX0_init_0, eX0_init_0N, eX0_init_1, eX0_init_4, eX0_init_4N, eX0_init_5, eX0_init_6, eX0_init_9, eX0_init_9N, eX0_init_10, eX0_init_11, eX0_init_14, eX0_init_14N, eX0_init_15, eX0_init_17, eX0_init_20, eX0_init_20N, eX0_init_21, eX0_init_23, eX0_init_26, ite_le, n45, n54, true_or, or_true, false_or, or_false, false_and, and_false, kx_l, kx_r, go_s, gl_s, gi_s, gb_s2, gb_s3, gq_s, wt_nil, wt_int, wt_long, wt_ref, wt_null, nl_int, nl_long, nl_ref, nl_null, nl_none, rf_n, rf_s, rf_st, tl_s, tl_n, g0, gS, ex1, nb_b, nb_0, nb_1, nf_i, nf_l, nf_ra, nf_ro, nf_na, nf_no, nf_b0, nf_z0, t45_4, t45_5, true_and, and_true, List.set_cons_zero, List.set_cons_succ, List.length_cons, List.length_nil, rd_s, upw_s, ne_eq, not_false_eq_true, Nat.zero_add, Nat.add_zero]
    | split
    | with_reducible intro _
    | omega
set_option maxHeartbeats 4000000 in
theorem sX0_ofTwo {a0 : Int64} {a1 : Int64} (hN : Q (.inl (some .null)) w) (hQ : ∀ (q : Nat) (w' : Hw), ext g w w' → isR w' q → Q (.inl (some (.ref q))) w') : WP (MX0_ofTwo g) Q (0, [some (.long a0), none, some (.long a1), none], [], w, 0, 0) := by
  repeat' first
    | with_reducible assumption
    | with_reducible refine And.intro ?_ ?_
    | with_reducible exact vpi6 (by assumption) (by assumption)
    | with_reducible exact vpi8 (by assumption) (by assumption)
    | with_reducible refine sX0_ofFour ?_ ?_
    | with_reducible refine go_R (by assumption) ?_
    | with_reducible exact hQ _ _ (by assumption) (by assumption)
    | with_reducible exact hQ _ _ (by repeat' first | assumption | exact ext.rf | refine ext_up2 ?_ ?_) isR_up
    | simp only [eX0_ofTwo_0, eX0_ofTwo_1, eX0_ofTwo_2, eX0_ofTwo_3, eX0_ofTwo_4, eX0_ofTwo_7, eX0_ofTwo_7N, ite_le, n45, n54, true_or, or_true, false_or, or_false, false_and, and_false, kx_l, kx_r, go_s, gl_s, gi_s, gb_s2, gb_s3, gq_s, wt_nil, wt_int, wt_long, wt_ref, wt_null, nl_int, nl_long, nl_ref, nl_null, nl_none, rf_n, rf_s, rf_st, tl_s, tl_n, g0, gS, ex1, nb_b, nb_0, nb_1, nf_i, nf_l, nf_ra, nf_ro, nf_na, nf_no, nf_b0, nf_z0, t45_4, t45_5, true_and, and_true, List.set_cons_zero, List.set_cons_succ, List.length_cons, List.length_nil, rd_s, upw_s, ne_eq, not_false_eq_true, Nat.zero_add, Nat.add_zero]
    | split
    | with_reducible intro _
    | omega
set_option maxHeartbeats 4000000 in
theorem sX0_endAt {p : Nat} {a0 : Int32} (hp : isR w p) (hQ : ∀ v : Int64, Q (.inl (some (.long v))) w) : WP (MX0_endAt g) Q (0, [some (.ref p), some (.int a0)], [], w, 0, 0) := by
  rcases sw02 a0 with rfl | rfl | rfl | hsw
  · repeat' first
      | with_reducible assumption
      | with_reducible refine And.intro ?_ ?_
      | with_reducible exact vpi6 (by assumption) (by assumption)
      | with_reducible exact vpi8 (by assumption) (by assumption)
      | with_reducible refine go_R (by assumption) ?_
      | with_reducible exact hQ _
      | simp only [eX0_endAt_0, eX0_endAt_1_0, eX0_endAt_1_1, eX0_endAt_1_2, eX0_endAt_1_d3, eX0_endAt_1_d4, eX0_endAt_28, eX0_endAt_28N, eX0_endAt_29, eX0_endAt_32, eX0_endAt_33, eX0_endAt_33N, eX0_endAt_34, eX0_endAt_37, eX0_endAt_38, eX0_endAt_38N, eX0_endAt_39, eX0_endAt_42, eX0_endAt_43, eX0_endAt_43N, eX0_endAt_44, eX0_endAt_47, ite_le, n45, n54, true_or, or_true, false_or, or_false, false_and, and_false, kx_l, kx_r, go_s, gl_s, gi_s, gb_s2, gb_s3, gq_s, wt_nil, wt_int, wt_long, wt_ref, wt_null, nl_int, nl_long, nl_ref, nl_null, nl_none, rf_n, rf_s, rf_st, tl_s, tl_n, g0, gS, ex1, nb_b, nb_0, nb_1, nf_i, nf_l, nf_ra, nf_ro, nf_na, nf_no, nf_b0, nf_z0, t45_4, t45_5, true_and, and_true, List.set_cons_zero, List.set_cons_succ, List.length_cons, List.length_nil, rd_s, upw_s, ne_eq, not_false_eq_true, Nat.zero_add, Nat.add_zero]
      | split
      | with_reducible intro _
      | omega
  · repeat' first
      | with_reducible assumption
      | with_reducible refine And.intro ?_ ?_
      | with_reducible exact vpi6 (by assumption) (by assumption)
      | with_reducible exact vpi8 (by assumption) (by assumption)
      | with_reducible refine go_R (by assumption) ?_
      | with_reducible exact hQ _
      | simp only [eX0_endAt_0, eX0_endAt_1_0, eX0_endAt_1_1, eX0_endAt_1_2, eX0_endAt_1_d3, eX0_endAt_1_d4, eX0_endAt_28, eX0_endAt_28N, eX0_endAt_29, eX0_endAt_32, eX0_endAt_33, eX0_endAt_33N, eX0_endAt_34, eX0_endAt_37, eX0_endAt_38, eX0_endAt_38N, eX0_endAt_39, eX0_endAt_42, eX0_endAt_43, eX0_endAt_43N, eX0_endAt_44, eX0_endAt_47, ite_le, n45, n54, true_or, or_true, false_or, or_false, false_and, and_false, kx_l, kx_r, go_s, gl_s, gi_s, gb_s2, gb_s3, gq_s, wt_nil, wt_int, wt_long, wt_ref, wt_null, nl_int, nl_long, nl_ref, nl_null, nl_none, rf_n, rf_s, rf_st, tl_s, tl_n, g0, gS, ex1, nb_b, nb_0, nb_1, nf_i, nf_l, nf_ra, nf_ro, nf_na, nf_no, nf_b0, nf_z0, t45_4, t45_5, true_and, and_true, List.set_cons_zero, List.set_cons_succ, List.length_cons, List.length_nil, rd_s, upw_s, ne_eq, not_false_eq_true, Nat.zero_add, Nat.add_zero]
      | split
      | with_reducible intro _
      | omega
  · repeat' first
      | with_reducible assumption
      | with_reducible refine And.intro ?_ ?_
      | with_reducible exact vpi6 (by assumption) (by assumption)
      | with_reducible exact vpi8 (by assumption) (by assumption)
      | with_reducible refine go_R (by assumption) ?_
      | with_reducible exact hQ _
      | simp only [eX0_endAt_0, eX0_endAt_1_0, eX0_endAt_1_1, eX0_endAt_1_2, eX0_endAt_1_d3, eX0_endAt_1_d4, eX0_endAt_28, eX0_endAt_28N, eX0_endAt_29, eX0_endAt_32, eX0_endAt_33, eX0_endAt_33N, eX0_endAt_34, eX0_endAt_37, eX0_endAt_38, eX0_endAt_38N, eX0_endAt_39, eX0_endAt_42, eX0_endAt_43, eX0_endAt_43N, eX0_endAt_44, eX0_endAt_47, ite_le, n45, n54, true_or, or_true, false_or, or_false, false_and, and_false, kx_l, kx_r, go_s, gl_s, gi_s, gb_s2, gb_s3, gq_s, wt_nil, wt_int, wt_long, wt_ref, wt_null, nl_int, nl_long, nl_ref, nl_null, nl_none, rf_n, rf_s, rf_st, tl_s, tl_n, g0, gS, ex1, nb_b, nb_0, nb_1, nf_i, nf_l, nf_ra, nf_ro, nf_na, nf_no, nf_b0, nf_z0, t45_4, t45_5, true_and, and_true, List.set_cons_zero, List.set_cons_succ, List.length_cons, List.length_nil, rd_s, upw_s, ne_eq, not_false_eq_true, Nat.zero_add, Nat.add_zero]
      | split
      | with_reducible intro _
      | omega
  · repeat' first
      | with_reducible assumption
      | with_reducible refine And.intro ?_ ?_
      | with_reducible exact vpi6 (by assumption) (by assumption)
      | with_reducible exact vpi8 (by assumption) (by assumption)
      | with_reducible refine go_R (by assumption) ?_
      | with_reducible exact hQ _
      | simp only [eX0_endAt_0, eX0_endAt_1_0, eX0_endAt_1_1, eX0_endAt_1_2, eX0_endAt_1_d3, eX0_endAt_1_d4, eX0_endAt_28, eX0_endAt_28N, eX0_endAt_29, eX0_endAt_32, eX0_endAt_33, eX0_endAt_33N, eX0_endAt_34, eX0_endAt_37, eX0_endAt_38, eX0_endAt_38N, eX0_endAt_39, eX0_endAt_42, eX0_endAt_43, eX0_endAt_43N, eX0_endAt_44, eX0_endAt_47, eX0_endAt_1_d hsw, ite_le, n45, n54, true_or, or_true, false_or, or_false, false_and, and_false, kx_l, kx_r, go_s, gl_s, gi_s, gb_s2, gb_s3, gq_s, wt_nil, wt_int, wt_long, wt_ref, wt_null, nl_int, nl_long, nl_ref, nl_null, nl_none, rf_n, rf_s, rf_st, tl_s, tl_n, g0, gS, ex1, nb_b, nb_0, nb_1, nf_i, nf_l, nf_ra, nf_ro, nf_na, nf_no, nf_b0, nf_z0, t45_4, t45_5, true_and, and_true, List.set_cons_zero, List.set_cons_succ, List.length_cons, List.length_nil, rd_s, upw_s, ne_eq, not_false_eq_true, Nat.zero_add, Nat.add_zero]
      | split
      | with_reducible intro _
      | omega
end
end
/-! 67.22.class0.lean.txt -/
section
section
variable {g : RO} {Q : Ot → Hw → Prop} {w0 w : Hw} {x nA cA lA : Nat} {kn : Int32}
theorem sX1_needNumber {a0 : Int32} (hXo : Q (.inr "java/lang/IndexOutOfBoundsException") w) (hQ : ¬ a0 < 0 → a0 < 8 → Q (.inl none) w) : WP (MX1_needNumber g) Q (0, [some (.int a0)], [], w, 0, 0) := by
  repeat' first
    | with_reducible assumption
    | with_reducible refine And.intro ?_ ?_
    | with_reducible exact vpi6 (by assumption) (by assumption)
    | with_reducible exact vpi8 (by assumption) (by assumption)
    | with_reducible exact hQ (by assumption) (by assumption)
    | simp only [eX1_needNumber_0, eX1_needNumber_1, eX1_needNumber_4, eX1_needNumber_5, eX1_needNumber_7, eX1_needNumber_10, eX1_needNumber_20, ite_le, n45, n54, true_or, or_true, false_or, or_false, false_and, and_false, kx_l, kx_r, go_s, gl_s, gi_s, gb_s2, gb_s3, gq_s, wt_nil, wt_int, wt_long, wt_ref, wt_null, nl_int, nl_long, nl_ref, nl_null, nl_none, rf_n, rf_s, rf_st, tl_s, tl_n, g0, gS, ex1, nb_b, nb_0, nb_1, nf_i, nf_l, nf_ra, nf_ro, nf_na, nf_no, nf_b0, nf_z0, t45_4, t45_5, true_and, and_true, List.set_cons_zero, List.set_cons_succ, List.length_cons, List.length_nil, rd_s, upw_s, ne_eq, not_false_eq_true, Nat.zero_add, Nat.add_zero]
    | split
    | with_reducible intro _
    | omega
theorem sX1_needCard {a0 : Int32} (hXo : Q (.inr "java/lang/IndexOutOfBoundsException") w) (hQ : ¬ a0 < 0 → a0 < 6 → Q (.inl none) w) : WP (MX1_needCard g) Q (0, [some (.int a0)], [], w, 0, 0) := by
  repeat' first
    | with_reducible assumption
    | with_reducible refine And.intro ?_ ?_
    | with_reducible exact vpi6 (by assumption) (by assumption)
    | with_reducible exact vpi8 (by assumption) (by assumption)
    | with_reducible exact hQ (by assumption) (by assumption)
    | simp only [eX1_needCard_0, eX1_needCard_1, eX1_needCard_4, eX1_needCard_5, eX1_needCard_7, eX1_needCard_10, eX1_needCard_20, ite_le, n45, n54, true_or, or_true, false_or, or_false, false_and, and_false, kx_l, kx_r, go_s, gl_s, gi_s, gb_s2, gb_s3, gq_s, wt_nil, wt_int, wt_long, wt_ref, wt_null, nl_int, nl_long, nl_ref, nl_null, nl_none, rf_n, rf_s, rf_st, tl_s, tl_n, g0, gS, ex1, nb_b, nb_0, nb_1, nf_i, nf_l, nf_ra, nf_ro, nf_na, nf_no, nf_b0, nf_z0, t45_4, t45_5, true_and, and_true, List.set_cons_zero, List.set_cons_succ, List.length_cons, List.length_nil, rd_s, upw_s, ne_eq, not_false_eq_true, Nat.zero_add, Nat.add_zero]
    | split
    | with_reducible intro _
    | omega
theorem sX1_needChoice {a0 a1 : Int32} (hXa : Q (.inr "java/lang/IllegalArgumentException") w) (hQ : ¬ a0 < 0 → ¬ a1 < a0 → Q (.inl none) w) : WP (MX1_needChoice g) Q (0, [some (.int a0), some (.int a1)], [], w, 0, 0) := by
  repeat' first
    | with_reducible assumption
    | with_reducible refine And.intro ?_ ?_
    | with_reducible exact vpi6 (by assumption) (by assumption)
    | with_reducible exact vpi8 (by assumption) (by assumption)
    | with_reducible exact hQ (by assumption) (by assumption)
    | simp only [eX1_needChoice_0, eX1_needChoice_1, eX1_needChoice_4, eX1_needChoice_5, eX1_needChoice_6, eX1_needChoice_9, eX1_needChoice_19, ite_le, n45, n54, true_or, or_true, false_or, or_false, false_and, and_false, kx_l, kx_r, go_s, gl_s, gi_s, gb_s2, gb_s3, gq_s, wt_nil, wt_int, wt_long, wt_ref, wt_null, nl_int, nl_long, nl_ref, nl_null, nl_none, rf_n, rf_s, rf_st, tl_s, tl_n, g0, gS, ex1, nb_b, nb_0, nb_1, nf_i, nf_l, nf_ra, nf_ro, nf_na, nf_no, nf_b0, nf_z0, t45_4, t45_5, true_and, and_true, List.set_cons_zero, List.set_cons_succ, List.length_cons, List.length_nil, rd_s, upw_s, ne_eq, not_false_eq_true, Nat.zero_add, Nat.add_zero]
    | split
    | with_reducible intro _
    | omega
set_option maxHeartbeats 4000000 in
theorem sX1_highOf {a0 : Int64} (hQ : ∀ v : Int32, Q (.inl (some (.int v))) w) : WP (MX1_highOf g) Q (0, [some (.long a0), none], [], w, 0, 0) := by
  repeat' first
    | with_reducible assumption
    | with_reducible refine And.intro ?_ ?_
    | with_reducible exact vpi6 (by assumption) (by assumption)
    | with_reducible exact vpi8 (by assumption) (by assumption)
    | with_reducible refine go_R (by assumption) ?_
    | with_reducible exact hQ _
    | simp only [eX1_highOf_0, eX1_highOf_1, eX1_highOf_3, eX1_highOf_4, eX1_highOf_5, ite_le, n45, n54, true_or, or_true, false_or, or_false, false_and, and_false, kx_l, kx_r, go_s, gl_s, gi_s, gb_s2, gb_s3, gq_s, wt_nil, wt_int, wt_long, wt_ref, wt_null, nl_int, nl_long, nl_ref, nl_null, nl_none, rf_n, rf_s, rf_st, tl_s, tl_n, g0, gS, ex1, nb_b, nb_0, nb_1, nf_i, nf_l, nf_ra, nf_ro, nf_na, nf_no, nf_b0, nf_z0, t45_4, t45_5, true_and, and_true, List.set_cons_zero, List.set_cons_succ, List.length_cons, List.length_nil, rd_s, upw_s, ne_eq, not_false_eq_true, Nat.zero_add, Nat.add_zero]
    | split
    | with_reducible intro _
    | omega
set_option maxHeartbeats 4000000 in
theorem sX1_lowOf {a0 : Int64} (hQ : ∀ v : Int32, Q (.inl (some (.int v))) w) : WP (MX1_lowOf g) Q (0, [some (.long a0), none], [], w, 0, 0) := by
  repeat' first
    | with_reducible assumption
    | with_reducible refine And.intro ?_ ?_
    | with_reducible exact vpi6 (by assumption) (by assumption)
    | with_reducible exact vpi8 (by assumption) (by assumption)
    | with_reducible refine go_R (by assumption) ?_
    | with_reducible exact hQ _
    | simp only [eX1_lowOf_0, eX1_lowOf_1, eX1_lowOf_2, ite_le, n45, n54, true_or, or_true, false_or, or_false, false_and, and_false, kx_l, kx_r, go_s, gl_s, gi_s, gb_s2, gb_s3, gq_s, wt_nil, wt_int, wt_long, wt_ref, wt_null, nl_int, nl_long, nl_ref, nl_null, nl_none, rf_n, rf_s, rf_st, tl_s, tl_n, g0, gS, ex1, nb_b, nb_0, nb_1, nf_i, nf_l, nf_ra, nf_ro, nf_na, nf_no, nf_b0, nf_z0, t45_4, t45_5, true_and, and_true, List.set_cons_zero, List.set_cons_succ, List.length_cons, List.length_nil, rd_s, upw_s, ne_eq, not_false_eq_true, Nat.zero_add, Nat.add_zero]
    | split
    | with_reducible intro _
    | omega
set_option maxHeartbeats 4000000 in
theorem sX1_asNumber {a0 : Int32} (hQ : ∀ v : Int32, Q (.inl (some (.int v))) w) : WP (MX1_asNumber g) Q (0, [some (.int a0)], [], w, 0, 0) := by
  repeat' first
    | with_reducible assumption
    | with_reducible refine And.intro ?_ ?_
    | with_reducible exact vpi6 (by assumption) (by assumption)
    | with_reducible exact vpi8 (by assumption) (by assumption)
    | with_reducible refine go_R (by assumption) ?_
    | with_reducible exact hQ _
    | simp only [eX1_asNumber_0, eX1_asNumber_1, eX1_asNumber_4, eX1_asNumber_5, eX1_asNumber_8, eX1_asNumber_9, ite_le, n45, n54, true_or, or_true, false_or, or_false, false_and, and_false, kx_l, kx_r, go_s, gl_s, gi_s, gb_s2, gb_s3, gq_s, wt_nil, wt_int, wt_long, wt_ref, wt_null, nl_int, nl_long, nl_ref, nl_null, nl_none, rf_n, rf_s, rf_st, tl_s, tl_n, g0, gS, ex1, nb_b, nb_0, nb_1, nf_i, nf_l, nf_ra, nf_ro, nf_na, nf_no, nf_b0, nf_z0, t45_4, t45_5, true_and, and_true, List.set_cons_zero, List.set_cons_succ, List.length_cons, List.length_nil, rd_s, upw_s, ne_eq, not_false_eq_true, Nat.zero_add, Nat.add_zero]
    | split
    | with_reducible intro _
    | omega
set_option maxHeartbeats 4000000 in
theorem sX1_copyOf {a0 : Nat} (h0 : isR w a0) (hN : Q (.inl (some .null)) w) (hQ : ∀ (q : Nat) (w' : Hw), ext g w w' → isR w' q → Q (.inl (some (.ref q))) w') : WP (MX1_copyOf g) Q (0, [some (.ref a0)], [], w, 0, 0) := by
  repeat' first
    | with_reducible assumption
    | with_reducible refine And.intro ?_ ?_
    | with_reducible exact vpi6 (by assumption) (by assumption)
    | with_reducible exact vpi8 (by assumption) (by assumption)
    | with_reducible refine sX0_ofFour ?_ ?_
    | with_reducible refine go_R (by assumption) ?_
    | with_reducible exact hQ _ _ (by assumption) (by assumption)
    | with_reducible exact hQ _ _ (by repeat' first | assumption | exact ext.rf | refine ext_up2 ?_ ?_) isR_up
    | simp only [eX1_copyOf_0, eX1_copyOf_0N, eX1_copyOf_1, eX1_copyOf_4, eX1_copyOf_4N, eX1_copyOf_5, eX1_copyOf_8, eX1_copyOf_8N, eX1_copyOf_9, eX1_copyOf_12, eX1_copyOf_12N, eX1_copyOf_13, eX1_copyOf_16, eX1_copyOf_19, eX1_copyOf_19N, ite_le, n45, n54, true_or, or_true, false_or, or_false, false_and, and_false, kx_l, kx_r, go_s, gl_s, gi_s, gb_s2, gb_s3, gq_s, wt_nil, wt_int, wt_long, wt_ref, wt_null, nl_int, nl_long, nl_ref, nl_null, nl_none, rf_n, rf_s, rf_st, tl_s, tl_n, g0, gS, ex1, nb_b, nb_0, nb_1, nf_i, nf_l, nf_ra, nf_ro, nf_na, nf_no, nf_b0, nf_z0, t45_4, t45_5, true_and, and_true, List.set_cons_zero, List.set_cons_succ, List.length_cons, List.length_nil, rd_s, upw_s, ne_eq, not_false_eq_true, Nat.zero_add, Nat.add_zero]
    | split
    | with_reducible intro _
    | omega
set_option maxHeartbeats 4000000 in
theorem sX1_outerOf {a0 : Nat} (h0 : isR w a0) (hN : Q (.inl (some .null)) w) (hQ : ∀ (q : Nat) (w' : Hw), ext g w w' → isR w' q → Q (.inl (some (.ref q))) w') : WP (MX1_outerOf g) Q (0, [some (.ref a0)], [], w, 0, 0) := by
  repeat' first
    | with_reducible assumption
    | with_reducible refine And.intro ?_ ?_
    | with_reducible exact vpi6 (by assumption) (by assumption)
    | with_reducible exact vpi8 (by assumption) (by assumption)
    | with_reducible refine sX0_ofTwo ?_ ?_
    | with_reducible refine go_R (by assumption) ?_
    | with_reducible exact hQ _ _ (by assumption) (by assumption)
    | with_reducible exact hQ _ _ (by repeat' first | assumption | exact ext.rf | refine ext_up2 ?_ ?_) isR_up
    | simp only [eX1_outerOf_0, eX1_outerOf_0N, eX1_outerOf_1, eX1_outerOf_4, eX1_outerOf_4N, eX1_outerOf_5, eX1_outerOf_8, eX1_outerOf_11, eX1_outerOf_11N, ite_le, n45, n54, true_or, or_true, false_or, or_false, false_and, and_false, kx_l, kx_r, go_s, gl_s, gi_s, gb_s2, gb_s3, gq_s, wt_nil, wt_int, wt_long, wt_ref, wt_null, nl_int, nl_long, nl_ref, nl_null, nl_none, rf_n, rf_s, rf_st, tl_s, tl_n, g0, gS, ex1, nb_b, nb_0, nb_1, nf_i, nf_l, nf_ra, nf_ro, nf_na, nf_no, nf_b0, nf_z0, t45_4, t45_5, true_and, and_true, List.set_cons_zero, List.set_cons_succ, List.length_cons, List.length_nil, rd_s, upw_s, ne_eq, not_false_eq_true, Nat.zero_add, Nat.add_zero]
    | split
    | with_reducible intro _
    | omega
set_option maxHeartbeats 4000000 in
theorem sX1_validityIn {a0 : Nat} {a1 : Int64} (h0 : isR w a0) (hQ : ∀ v : Int32, Q (.inl (some (.int v))) w) : WP (MX1_validityIn g) Q (0, [some (.ref a0), some (.long a1), none], [], w, 0, 0) := by
  repeat' first
    | with_reducible assumption
    | with_reducible refine And.intro ?_ ?_
    | with_reducible exact vpi6 (by assumption) (by assumption)
    | with_reducible exact vpi8 (by assumption) (by assumption)
    | with_reducible refine sX0_holds (by first | assumption | exact hgc _ _ (by assumption) | exact hgl _ _ (by assumption) | exact isR.ext (by assumption) (by assumption)) ?_
    | with_reducible refine sX1_asNumber ?_
    | with_reducible refine sX0_holdsAsSmall (by first | assumption | exact hgc _ _ (by assumption) | exact hgl _ _ (by assumption) | exact isR.ext (by assumption) (by assumption)) ?_
    | with_reducible refine go_R (by assumption) ?_
    | with_reducible exact hQ _
    | simp only [eX1_validityIn_0, eX1_validityIn_0N, eX1_validityIn_1, eX1_validityIn_2, eX1_validityIn_5, eX1_validityIn_8, eX1_validityIn_8N, eX1_validityIn_9, eX1_validityIn_10, eX1_validityIn_13, eX1_validityIn_16, eX1_validityIn_17, ite_le, n45, n54, true_or, or_true, false_or, or_false, false_and, and_false, kx_l, kx_r, go_s, gl_s, gi_s, gb_s2, gb_s3, gq_s, wt_nil, wt_int, wt_long, wt_ref, wt_null, nl_int, nl_long, nl_ref, nl_null, nl_none, rf_n, rf_s, rf_st, tl_s, tl_n, g0, gS, ex1, nb_b, nb_0, nb_1, nf_i, nf_l, nf_ra, nf_ro, nf_na, nf_no, nf_b0, nf_z0, t45_4, t45_5, true_and, and_true, List.set_cons_zero, List.set_cons_succ, List.length_cons, List.length_nil, rd_s, upw_s, ne_eq, not_false_eq_true, Nat.zero_add, Nat.add_zero]
    | split
    | with_reducible intro _
    | omega
set_option maxHeartbeats 4000000 in
theorem sX1_neighboursIn {a0 : Nat} {a1 : Int64} {a2 : Int32} (h0 : isR w a0) (hQ : ∀ v : Int32, Q (.inl (some (.int v))) w) : WP (MX1_neighboursIn g) Q (0, [some (.ref a0), some (.long a1), none, some (.int a2)], [], w, 0, 0) := by
  repeat' first
    | with_reducible assumption
    | with_reducible refine And.intro ?_ ?_
    | with_reducible exact vpi6 (by assumption) (by assumption)
    | with_reducible exact vpi8 (by assumption) (by assumption)
    | with_reducible refine sX0_holdsAs (by first | assumption | exact hgc _ _ (by assumption) | exact hgl _ _ (by assumption) | exact isR.ext (by assumption) (by assumption)) ?_
    | with_reducible refine sX1_asNumber ?_
    | with_reducible refine go_R (by assumption) ?_
    | with_reducible exact hQ _
    | simp only [eX1_neighboursIn_0, eX1_neighboursIn_0N, eX1_neighboursIn_1, eX1_neighboursIn_2, eX1_neighboursIn_3, eX1_neighboursIn_4, eX1_neighboursIn_5, eX1_neighboursIn_8, eX1_neighboursIn_11, eX1_neighboursIn_12, eX1_neighboursIn_12N, eX1_neighboursIn_13, eX1_neighboursIn_14, eX1_neighboursIn_15, eX1_neighboursIn_18, eX1_neighboursIn_21, eX1_neighboursIn_22, eX1_neighboursIn_23, eX1_neighboursIn_24, eX1_neighboursIn_24N, eX1_neighboursIn_25, eX1_neighboursIn_26, eX1_neighboursIn_27, eX1_neighboursIn_28, eX1_neighboursIn_29, eX1_neighboursIn_32, eX1_neighboursIn_35, eX1_neighboursIn_36, eX1_neighboursIn_37, ite_le, n45, n54, true_or, or_true, false_or, or_false, false_and, and_false, kx_l, kx_r, go_s, gl_s, gi_s, gb_s2, gb_s3, gq_s, wt_nil, wt_int, wt_long, wt_ref, wt_null, nl_int, nl_long, nl_ref, nl_null, nl_none, rf_n, rf_s, rf_st, tl_s, tl_n, g0, gS, ex1, nb_b, nb_0, nb_1, nf_i, nf_l, nf_ra, nf_ro, nf_na, nf_no, nf_b0, nf_z0, t45_4, t45_5, true_and, and_true, List.set_cons_zero, List.set_cons_succ, List.length_cons, List.length_nil, rd_s, upw_s, ne_eq, not_false_eq_true, Nat.zero_add, Nat.add_zero]
    | split
    | with_reducible intro _
    | omega
end
end
/-! 67.22.class1.lean.txt -/
section
section
variable {g : RO} {Q : Ot → Hw → Prop} {w0 w : Hw} {x nA cA lA : Nat} {kn : Int32}
set_option maxHeartbeats 4000000 in
theorem lX1_holdersOf_6 {a0 : Int64} {a1 : Int32} (hC : CC g w0 x nA cA lA kn w) (hQ : ∀ v : Int32, Q (.inl (some (.int v))) w) : ∀ (n rf md : Int32) (f : Nat → Int64) (gc gl : Nat → Option Nat), RO5 g w x nA cA lA n rf kn md f gc gl → ∀ (d : Nat) (i4 : Int32) (i5 : Int32) (i6 : Option Value) (k m : Nat), ¬ i5 < 0 → (6 : Int32).toInt - i5.toInt ≤ (d : Int) → k ≤ 0 → m ≤ 0 → WP (MX1_holdersOf g) Q (6, [some (.ref x), some (.long a0), none, some (.int a1), some (.int i4), some (.int i5), i6], [], w, k, m) := by
  rintro n rf md f gc gl ⟨hx, hn, hc, hl, hgc, hgl, hn0, hn1, rx, rn, rc, rl, ⟨d1, d2, d3, d4, d5, d6⟩, ⟨d7, d8, d9, d10, d11, d12⟩⟩ d
  induction d with
  | zero =>
    intro i4 i5 i6 k m z0 hm hk hs
    rw [eX1_holdersOf_6]
    repeat' first
      | with_reducible assumption
      | with_reducible refine And.intro ?_ ?_
      | with_reducible exact vpi6 (by assumption) (by assumption)
      | with_reducible exact vpi8 (by assumption) (by assumption)
      | with_reducible exact (ic_z (by assumption) (by assumption)).elim
      | with_reducible exact vpi12 (by assumption) (by assumption) (by assumption)
      | with_reducible refine sX0_holdsAs (by first | assumption | exact hgc _ _ (by assumption) | exact hgl _ _ (by assumption) | exact isR.ext (by assumption) (by assumption)) ?_
      | with_reducible refine go_R (by first | assumption | exact hgc _ _ (by assumption) | exact hgl _ _ (by assumption) | exact isR.ext (by assumption) (by assumption)) ?_
      | with_reducible exact hQ _
      | simp only [eX1_holdersOf_0, eX1_holdersOf_1, eX1_holdersOf_3, eX1_holdersOf_4, eX1_holdersOf_8, eX1_holdersOf_10, eX1_holdersOf_13, eX1_holdersOf_13N, eX1_holdersOf_14, eX1_holdersOf_17, eX1_holdersOf_19, eX1_holdersOf_20, eX1_holdersOf_20N, eX1_holdersOf_22, eX1_holdersOf_22N, eX1_holdersOf_24R, eX1_holdersOf_24N, eX1_holdersOf_27, eX1_holdersOf_27N, eX1_holdersOf_29, eX1_holdersOf_30, eX1_holdersOf_31, eX1_holdersOf_34, eX1_holdersOf_37, eX1_holdersOf_39, eX1_holdersOf_40, eX1_holdersOf_42, eX1_holdersOf_43, eX1_holdersOf_44, eX1_holdersOf_46, eX1_holdersOf_49, eX1_holdersOf_52, eX1_holdersOf_54, rx, rn, rc, rl, hx, hn, hc, hl, d1, d2, d3, d4, d5, d6, d7, d8, d9, d10, d11, d12, rd_n, upw_n, ite_le, n45, n54, true_or, or_true, false_or, or_false, false_and, and_false, kx_l, kx_r, go_s, gl_s, gi_s, gb_s2, gb_s3, gq_s, wt_nil, wt_int, wt_long, wt_ref, wt_null, nl_int, nl_long, nl_ref, nl_null, nl_none, rf_n, rf_s, rf_st, tl_s, tl_n, g0, gS, ex1, nb_b, nb_0, nb_1, nf_i, nf_l, nf_ra, nf_ro, nf_na, nf_no, nf_b0, nf_z0, t45_4, t45_5, true_and, and_true, List.set_cons_zero, List.set_cons_succ, List.length_cons, List.length_nil, rd_s, upw_s, ne_eq, not_false_eq_true, Nat.zero_add, Nat.add_zero]
      | split
      | with_reducible intro _
      | omega
  | succ d ih =>
    intro i4 i5 i6 k m z0 hm hk hs
    rw [eX1_holdersOf_6]
    repeat' first
      | with_reducible assumption
      | with_reducible refine And.intro ?_ ?_
      | with_reducible exact vpi6 (by assumption) (by assumption)
      | with_reducible exact vpi8 (by assumption) (by assumption)
      | with_reducible exact ih _ _ _ _ _ (ic_p (by assumption) (by assumption)) (ic_s (by assumption) (by assumption)) (by first | assumption | omega) (by first | assumption | omega)
      | with_reducible exact vpi12 (by assumption) (by assumption) (by assumption)
      | with_reducible refine sX0_holdsAs (by first | assumption | exact hgc _ _ (by assumption) | exact hgl _ _ (by assumption) | exact isR.ext (by assumption) (by assumption)) ?_
      | with_reducible refine go_R (by first | assumption | exact hgc _ _ (by assumption) | exact hgl _ _ (by assumption) | exact isR.ext (by assumption) (by assumption)) ?_
      | with_reducible exact hQ _
      | simp only [eX1_holdersOf_0, eX1_holdersOf_1, eX1_holdersOf_3, eX1_holdersOf_4, eX1_holdersOf_8, eX1_holdersOf_10, eX1_holdersOf_13, eX1_holdersOf_13N, eX1_holdersOf_14, eX1_holdersOf_17, eX1_holdersOf_19, eX1_holdersOf_20, eX1_holdersOf_20N, eX1_holdersOf_22, eX1_holdersOf_22N, eX1_holdersOf_24R, eX1_holdersOf_24N, eX1_holdersOf_27, eX1_holdersOf_27N, eX1_holdersOf_29, eX1_holdersOf_30, eX1_holdersOf_31, eX1_holdersOf_34, eX1_holdersOf_37, eX1_holdersOf_39, eX1_holdersOf_40, eX1_holdersOf_42, eX1_holdersOf_43, eX1_holdersOf_44, eX1_holdersOf_46, eX1_holdersOf_49, eX1_holdersOf_52, eX1_holdersOf_54, rx, rn, rc, rl, hx, hn, hc, hl, d1, d2, d3, d4, d5, d6, d7, d8, d9, d10, d11, d12, rd_n, upw_n, ite_le, n45, n54, true_or, or_true, false_or, or_false, false_and, and_false, kx_l, kx_r, go_s, gl_s, gi_s, gb_s2, gb_s3, gq_s, wt_nil, wt_int, wt_long, wt_ref, wt_null, nl_int, nl_long, nl_ref, nl_null, nl_none, rf_n, rf_s, rf_st, tl_s, tl_n, g0, gS, ex1, nb_b, nb_0, nb_1, nf_i, nf_l, nf_ra, nf_ro, nf_na, nf_no, nf_b0, nf_z0, t45_4, t45_5, true_and, and_true, List.set_cons_zero, List.set_cons_succ, List.length_cons, List.length_nil, rd_s, upw_s, ne_eq, not_false_eq_true, Nat.zero_add, Nat.add_zero]
      | split
      | with_reducible intro _
      | omega
set_option maxHeartbeats 4000000 in
theorem sX1_holdersOf {a0 : Int64} {a1 : Int32} (hC : CC g w0 x nA cA lA kn w) (hQ : ∀ v : Int32, Q (.inl (some (.int v))) w) : WP (MX1_holdersOf g) Q (0, [some (.ref x), some (.long a0), none, some (.int a1), none, none, none], [], w, 0, 0) := by
  obtain ⟨n, rf, md, f, gc, gl, hx, hn, hc, hl, hgc, hgl, hn0, hn1, rx, rn, rc, rl, ⟨d1, d2, d3, d4, d5, d6⟩, ⟨d7, d8, d9, d10, d11, d12⟩⟩ := hC.1.opn g
  repeat' first
    | with_reducible assumption
    | with_reducible refine And.intro ?_ ?_
    | with_reducible exact vpi6 (by assumption) (by assumption)
    | with_reducible exact vpi8 (by assumption) (by assumption)
    | with_reducible exact lX1_holdersOf_6 hC hQ _ _ _ _ _ _ ⟨hx, hn, hc, hl, hgc, hgl, hn0, hn1, rx, rn, rc, rl, ⟨d1, d2, d3, d4, d5, d6⟩, ⟨d7, d8, d9, d10, d11, d12⟩⟩ 70 _ _ _ _ _ (by first | decide | assumption) (by first | decide | exact n12 (by assumption) | exact n60 (by assumption)) (by first | decide | omega) (by first | decide | omega)
    | with_reducible refine sX0_holdsAs (by first | assumption | exact hgc _ _ (by assumption) | exact hgl _ _ (by assumption) | exact isR.ext (by assumption) (by assumption)) ?_
    | with_reducible refine go_R (by first | assumption | exact hgc _ _ (by assumption) | exact hgl _ _ (by assumption) | exact isR.ext (by assumption) (by assumption)) ?_
    | with_reducible exact hQ _
    | simp only [eX1_holdersOf_0, eX1_holdersOf_1, eX1_holdersOf_3, eX1_holdersOf_4, eX1_holdersOf_8, eX1_holdersOf_10, eX1_holdersOf_13, eX1_holdersOf_13N, eX1_holdersOf_14, eX1_holdersOf_17, eX1_holdersOf_19, eX1_holdersOf_20, eX1_holdersOf_20N, eX1_holdersOf_22, eX1_holdersOf_22N, eX1_holdersOf_24R, eX1_holdersOf_24N, eX1_holdersOf_27, eX1_holdersOf_27N, eX1_holdersOf_29, eX1_holdersOf_30, eX1_holdersOf_31, eX1_holdersOf_34, eX1_holdersOf_37, eX1_holdersOf_39, eX1_holdersOf_40, eX1_holdersOf_42, eX1_holdersOf_43, eX1_holdersOf_44, eX1_holdersOf_46, eX1_holdersOf_49, eX1_holdersOf_52, eX1_holdersOf_54, rx, rn, rc, rl, hx, hn, hc, hl, d1, d2, d3, d4, d5, d6, d7, d8, d9, d10, d11, d12, rd_n, upw_n, ite_le, n45, n54, true_or, or_true, false_or, or_false, false_and, and_false, kx_l, kx_r, go_s, gl_s, gi_s, gb_s2, gb_s3, gq_s, wt_nil, wt_int, wt_long, wt_ref, wt_null, nl_int, nl_long, nl_ref, nl_null, nl_none, rf_n, rf_s, rf_st, tl_s, tl_n, g0, gS, ex1, nb_b, nb_0, nb_1, nf_i, nf_l, nf_ra, nf_ro, nf_na, nf_no, nf_b0, nf_z0, t45_4, t45_5, true_and, and_true, List.set_cons_zero, List.set_cons_succ, List.length_cons, List.length_nil, rd_s, upw_s, ne_eq, not_false_eq_true, Nat.zero_add, Nat.add_zero]
    | split
    | with_reducible intro _
    | omega
set_option maxHeartbeats 4000000 in
theorem sX1_isSo {a0 : Nat} {a1 : Int32} (h0 : isR w a0) (k0 : ¬ a1 < 0) (k1 : ¬ 2 < a1) (hQ : ∀ v : Bool, Q (.inl (some (.int (bI v)))) w) : WP (MX1_isSo g) Q (0, [some (.ref a0), some (.int a1)], [], w, 0, 0) := by
  have hQt : Q (.inl (some (.int 1))) w := hQ true
  have hQf : Q (.inl (some (.int 0))) w := hQ false
  rcases i02 k0 k1 with rfl | rfl | rfl
  · repeat' first
      | with_reducible assumption
      | with_reducible refine And.intro ?_ ?_
      | with_reducible exact vpi6 (by assumption) (by assumption)
      | with_reducible exact vpi8 (by assumption) (by assumption)
      | with_reducible refine sX0_isSettled (by first | assumption | exact hgc _ _ (by assumption) | exact hgl _ _ (by assumption) | exact isR.ext (by assumption) (by assumption)) ?_
      | with_reducible refine sX0_fitsSmall (by first | assumption | exact hgc _ _ (by assumption) | exact hgl _ _ (by assumption) | exact isR.ext (by assumption) (by assumption)) ?_
      | with_reducible refine go_R (by assumption) ?_
      | with_reducible exact hQ _
      | with_reducible exact hQt
      | with_reducible exact hQf
      | simp only [eX1_isSo_0, eX1_isSo_1_0, eX1_isSo_1_1, eX1_isSo_1_2, eX1_isSo_1_3, eX1_isSo_1_4, eX1_isSo_28, eX1_isSo_28N, eX1_isSo_29, eX1_isSo_32, eX1_isSo_33, eX1_isSo_33N, eX1_isSo_34, eX1_isSo_37, eX1_isSo_38, eX1_isSo_39, ite_le, n45, n54, true_or, or_true, false_or, or_false, false_and, and_false, kx_l, kx_r, go_s, gl_s, gi_s, gb_s2, gb_s3, gq_s, wt_nil, wt_int, wt_long, wt_ref, wt_null, nl_int, nl_long, nl_ref, nl_null, nl_none, rf_n, rf_s, rf_st, tl_s, tl_n, g0, gS, ex1, nb_b, nb_0, nb_1, nf_i, nf_l, nf_ra, nf_ro, nf_na, nf_no, nf_b0, nf_z0, t45_4, t45_5, true_and, and_true, List.set_cons_zero, List.set_cons_succ, List.length_cons, List.length_nil, rd_s, upw_s, ne_eq, not_false_eq_true, Nat.zero_add, Nat.add_zero]
      | split
      | with_reducible intro _
      | omega
  · repeat' first
      | with_reducible assumption
      | with_reducible refine And.intro ?_ ?_
      | with_reducible exact vpi6 (by assumption) (by assumption)
      | with_reducible exact vpi8 (by assumption) (by assumption)
      | with_reducible refine sX0_isSettled (by first | assumption | exact hgc _ _ (by assumption) | exact hgl _ _ (by assumption) | exact isR.ext (by assumption) (by assumption)) ?_
      | with_reducible refine sX0_fitsSmall (by first | assumption | exact hgc _ _ (by assumption) | exact hgl _ _ (by assumption) | exact isR.ext (by assumption) (by assumption)) ?_
      | with_reducible refine go_R (by assumption) ?_
      | with_reducible exact hQ _
      | with_reducible exact hQt
      | with_reducible exact hQf
      | simp only [eX1_isSo_0, eX1_isSo_1_0, eX1_isSo_1_1, eX1_isSo_1_2, eX1_isSo_1_3, eX1_isSo_1_4, eX1_isSo_28, eX1_isSo_28N, eX1_isSo_29, eX1_isSo_32, eX1_isSo_33, eX1_isSo_33N, eX1_isSo_34, eX1_isSo_37, eX1_isSo_38, eX1_isSo_39, ite_le, n45, n54, true_or, or_true, false_or, or_false, false_and, and_false, kx_l, kx_r, go_s, gl_s, gi_s, gb_s2, gb_s3, gq_s, wt_nil, wt_int, wt_long, wt_ref, wt_null, nl_int, nl_long, nl_ref, nl_null, nl_none, rf_n, rf_s, rf_st, tl_s, tl_n, g0, gS, ex1, nb_b, nb_0, nb_1, nf_i, nf_l, nf_ra, nf_ro, nf_na, nf_no, nf_b0, nf_z0, t45_4, t45_5, true_and, and_true, List.set_cons_zero, List.set_cons_succ, List.length_cons, List.length_nil, rd_s, upw_s, ne_eq, not_false_eq_true, Nat.zero_add, Nat.add_zero]
      | split
      | with_reducible intro _
      | omega
  · repeat' first
      | with_reducible assumption
      | with_reducible refine And.intro ?_ ?_
      | with_reducible exact vpi6 (by assumption) (by assumption)
      | with_reducible exact vpi8 (by assumption) (by assumption)
      | with_reducible refine sX0_isSettled (by first | assumption | exact hgc _ _ (by assumption) | exact hgl _ _ (by assumption) | exact isR.ext (by assumption) (by assumption)) ?_
      | with_reducible refine sX0_fitsSmall (by first | assumption | exact hgc _ _ (by assumption) | exact hgl _ _ (by assumption) | exact isR.ext (by assumption) (by assumption)) ?_
      | with_reducible refine go_R (by assumption) ?_
      | with_reducible exact hQ _
      | with_reducible exact hQt
      | with_reducible exact hQf
      | simp only [eX1_isSo_0, eX1_isSo_1_0, eX1_isSo_1_1, eX1_isSo_1_2, eX1_isSo_1_3, eX1_isSo_1_4, eX1_isSo_28, eX1_isSo_28N, eX1_isSo_29, eX1_isSo_32, eX1_isSo_33, eX1_isSo_33N, eX1_isSo_34, eX1_isSo_37, eX1_isSo_38, eX1_isSo_39, ite_le, n45, n54, true_or, or_true, false_or, or_false, false_and, and_false, kx_l, kx_r, go_s, gl_s, gi_s, gb_s2, gb_s3, gq_s, wt_nil, wt_int, wt_long, wt_ref, wt_null, nl_int, nl_long, nl_ref, nl_null, nl_none, rf_n, rf_s, rf_st, tl_s, tl_n, g0, gS, ex1, nb_b, nb_0, nb_1, nf_i, nf_l, nf_ra, nf_ro, nf_na, nf_no, nf_b0, nf_z0, t45_4, t45_5, true_and, and_true, List.set_cons_zero, List.set_cons_succ, List.length_cons, List.length_nil, rd_s, upw_s, ne_eq, not_false_eq_true, Nat.zero_add, Nat.add_zero]
      | split
      | with_reducible intro _
      | omega
set_option maxHeartbeats 4000000 in
theorem lX1_cardsThatAre_4 {a0 : Int32} (hC : CC g w0 x nA cA lA kn w) (hQ : ∀ v : Int32, Q (.inl (some (.int v))) w) (k0 : ¬ a0 < 0) (k1 : ¬ 2 < a0) : ∀ (n rf md : Int32) (f : Nat → Int64) (gc gl : Nat → Option Nat), RO5 g w x nA cA lA n rf kn md f gc gl → ∀ (d : Nat) (i2 : Int32) (i3 : Int32) (i4 : Option Value) (k m : Nat), ¬ i3 < 0 → (6 : Int32).toInt - i3.toInt ≤ (d : Int) → k ≤ 0 → m ≤ 0 → WP (MX1_cardsThatAre g) Q (4, [some (.ref x), some (.int a0), some (.int i2), some (.int i3), i4], [], w, k, m) := by
  rintro n rf md f gc gl ⟨hx, hn, hc, hl, hgc, hgl, hn0, hn1, rx, rn, rc, rl, ⟨d1, d2, d3, d4, d5, d6⟩, ⟨d7, d8, d9, d10, d11, d12⟩⟩ d
  induction d with
  | zero =>
    intro i2 i3 i4 k m z0 hm hk hs
    rw [eX1_cardsThatAre_4]
    repeat' first
      | with_reducible assumption
      | with_reducible refine And.intro ?_ ?_
      | with_reducible exact vpi6 (by assumption) (by assumption)
      | with_reducible exact vpi8 (by assumption) (by assumption)
      | with_reducible exact (ic_z (by assumption) (by assumption)).elim
      | with_reducible exact vpi12 (by assumption) (by assumption) (by assumption)
      | with_reducible refine sX1_isSo (by first | assumption | exact hgc _ _ (by assumption) | exact hgl _ _ (by assumption) | exact isR.ext (by assumption) (by assumption)) (by assumption) (by assumption) ?_
      | with_reducible refine go_R (by first | assumption | exact hgc _ _ (by assumption) | exact hgl _ _ (by assumption) | exact isR.ext (by assumption) (by assumption)) ?_
      | with_reducible exact hQ _
      | simp only [eX1_cardsThatAre_0, eX1_cardsThatAre_1, eX1_cardsThatAre_2, eX1_cardsThatAre_3, eX1_cardsThatAre_5, eX1_cardsThatAre_7, eX1_cardsThatAre_10, eX1_cardsThatAre_10N, eX1_cardsThatAre_11, eX1_cardsThatAre_14, eX1_cardsThatAre_15, eX1_cardsThatAre_16, eX1_cardsThatAre_16N, eX1_cardsThatAre_18, eX1_cardsThatAre_18N, eX1_cardsThatAre_20R, eX1_cardsThatAre_20N, eX1_cardsThatAre_23, eX1_cardsThatAre_23N, eX1_cardsThatAre_25, eX1_cardsThatAre_26R, eX1_cardsThatAre_26N, eX1_cardsThatAre_29, eX1_cardsThatAre_32, eX1_cardsThatAre_33, eX1_cardsThatAre_34, eX1_cardsThatAre_35, eX1_cardsThatAre_36, eX1_cardsThatAre_37, eX1_cardsThatAre_38, eX1_cardsThatAre_41, eX1_cardsThatAre_44, eX1_cardsThatAre_45, rx, rn, rc, rl, hx, hn, hc, hl, d1, d2, d3, d4, d5, d6, d7, d8, d9, d10, d11, d12, rd_n, upw_n, ite_le, n45, n54, true_or, or_true, false_or, or_false, false_and, and_false, kx_l, kx_r, go_s, gl_s, gi_s, gb_s2, gb_s3, gq_s, wt_nil, wt_int, wt_long, wt_ref, wt_null, nl_int, nl_long, nl_ref, nl_null, nl_none, rf_n, rf_s, rf_st, tl_s, tl_n, g0, gS, ex1, nb_b, nb_0, nb_1, nf_i, nf_l, nf_ra, nf_ro, nf_na, nf_no, nf_b0, nf_z0, t45_4, t45_5, true_and, and_true, List.set_cons_zero, List.set_cons_succ, List.length_cons, List.length_nil, rd_s, upw_s, ne_eq, not_false_eq_true, Nat.zero_add, Nat.add_zero]
      | split
      | with_reducible intro _
      | omega
  | succ d ih =>
    intro i2 i3 i4 k m z0 hm hk hs
    rw [eX1_cardsThatAre_4]
    repeat' first
      | with_reducible assumption
      | with_reducible refine And.intro ?_ ?_
      | with_reducible exact vpi6 (by assumption) (by assumption)
      | with_reducible exact vpi8 (by assumption) (by assumption)
      | with_reducible exact ih _ _ _ _ _ (ic_p (by assumption) (by assumption)) (ic_s (by assumption) (by assumption)) (by first | assumption | omega) (by first | assumption | omega)
      | with_reducible exact vpi12 (by assumption) (by assumption) (by assumption)
      | with_reducible refine sX1_isSo (by first | assumption | exact hgc _ _ (by assumption) | exact hgl _ _ (by assumption) | exact isR.ext (by assumption) (by assumption)) (by assumption) (by assumption) ?_
      | with_reducible refine go_R (by first | assumption | exact hgc _ _ (by assumption) | exact hgl _ _ (by assumption) | exact isR.ext (by assumption) (by assumption)) ?_
      | with_reducible exact hQ _
      | simp only [eX1_cardsThatAre_0, eX1_cardsThatAre_1, eX1_cardsThatAre_2, eX1_cardsThatAre_3, eX1_cardsThatAre_5, eX1_cardsThatAre_7, eX1_cardsThatAre_10, eX1_cardsThatAre_10N, eX1_cardsThatAre_11, eX1_cardsThatAre_14, eX1_cardsThatAre_15, eX1_cardsThatAre_16, eX1_cardsThatAre_16N, eX1_cardsThatAre_18, eX1_cardsThatAre_18N, eX1_cardsThatAre_20R, eX1_cardsThatAre_20N, eX1_cardsThatAre_23, eX1_cardsThatAre_23N, eX1_cardsThatAre_25, eX1_cardsThatAre_26R, eX1_cardsThatAre_26N, eX1_cardsThatAre_29, eX1_cardsThatAre_32, eX1_cardsThatAre_33, eX1_cardsThatAre_34, eX1_cardsThatAre_35, eX1_cardsThatAre_36, eX1_cardsThatAre_37, eX1_cardsThatAre_38, eX1_cardsThatAre_41, eX1_cardsThatAre_44, eX1_cardsThatAre_45, rx, rn, rc, rl, hx, hn, hc, hl, d1, d2, d3, d4, d5, d6, d7, d8, d9, d10, d11, d12, rd_n, upw_n, ite_le, n45, n54, true_or, or_true, false_or, or_false, false_and, and_false, kx_l, kx_r, go_s, gl_s, gi_s, gb_s2, gb_s3, gq_s, wt_nil, wt_int, wt_long, wt_ref, wt_null, nl_int, nl_long, nl_ref, nl_null, nl_none, rf_n, rf_s, rf_st, tl_s, tl_n, g0, gS, ex1, nb_b, nb_0, nb_1, nf_i, nf_l, nf_ra, nf_ro, nf_na, nf_no, nf_b0, nf_z0, t45_4, t45_5, true_and, and_true, List.set_cons_zero, List.set_cons_succ, List.length_cons, List.length_nil, rd_s, upw_s, ne_eq, not_false_eq_true, Nat.zero_add, Nat.add_zero]
      | split
      | with_reducible intro _
      | omega
set_option maxHeartbeats 4000000 in
theorem sX1_cardsThatAre {a0 : Int32} (hC : CC g w0 x nA cA lA kn w) (hQ : ∀ v : Int32, Q (.inl (some (.int v))) w) (k0 : ¬ a0 < 0) (k1 : ¬ 2 < a0) : WP (MX1_cardsThatAre g) Q (0, [some (.ref x), some (.int a0), none, none, none], [], w, 0, 0) := by
  obtain ⟨n, rf, md, f, gc, gl, hx, hn, hc, hl, hgc, hgl, hn0, hn1, rx, rn, rc, rl, ⟨d1, d2, d3, d4, d5, d6⟩, ⟨d7, d8, d9, d10, d11, d12⟩⟩ := hC.1.opn g
  repeat' first
    | with_reducible assumption
    | with_reducible refine And.intro ?_ ?_
    | with_reducible exact vpi6 (by assumption) (by assumption)
    | with_reducible exact vpi8 (by assumption) (by assumption)
    | with_reducible exact lX1_cardsThatAre_4 hC hQ k0 k1 _ _ _ _ _ _ ⟨hx, hn, hc, hl, hgc, hgl, hn0, hn1, rx, rn, rc, rl, ⟨d1, d2, d3, d4, d5, d6⟩, ⟨d7, d8, d9, d10, d11, d12⟩⟩ 70 _ _ _ _ _ (by first | decide | assumption) (by first | decide | exact n12 (by assumption) | exact n60 (by assumption)) (by first | decide | omega) (by first | decide | omega)
    | with_reducible refine sX1_isSo (by first | assumption | exact hgc _ _ (by assumption) | exact hgl _ _ (by assumption) | exact isR.ext (by assumption) (by assumption)) (by assumption) (by assumption) ?_
    | with_reducible refine go_R (by first | assumption | exact hgc _ _ (by assumption) | exact hgl _ _ (by assumption) | exact isR.ext (by assumption) (by assumption)) ?_
    | with_reducible exact hQ _
    | simp only [eX1_cardsThatAre_0, eX1_cardsThatAre_1, eX1_cardsThatAre_2, eX1_cardsThatAre_3, eX1_cardsThatAre_5, eX1_cardsThatAre_7, eX1_cardsThatAre_10, eX1_cardsThatAre_10N, eX1_cardsThatAre_11, eX1_cardsThatAre_14, eX1_cardsThatAre_15, eX1_cardsThatAre_16, eX1_cardsThatAre_16N, eX1_cardsThatAre_18, eX1_cardsThatAre_18N, eX1_cardsThatAre_20R, eX1_cardsThatAre_20N, eX1_cardsThatAre_23, eX1_cardsThatAre_23N, eX1_cardsThatAre_25, eX1_cardsThatAre_26R, eX1_cardsThatAre_26N, eX1_cardsThatAre_29, eX1_cardsThatAre_32, eX1_cardsThatAre_33, eX1_cardsThatAre_34, eX1_cardsThatAre_35, eX1_cardsThatAre_36, eX1_cardsThatAre_37, eX1_cardsThatAre_38, eX1_cardsThatAre_41, eX1_cardsThatAre_44, eX1_cardsThatAre_45, rx, rn, rc, rl, hx, hn, hc, hl, d1, d2, d3, d4, d5, d6, d7, d8, d9, d10, d11, d12, rd_n, upw_n, ite_le, n45, n54, true_or, or_true, false_or, or_false, false_and, and_false, kx_l, kx_r, go_s, gl_s, gi_s, gb_s2, gb_s3, gq_s, wt_nil, wt_int, wt_long, wt_ref, wt_null, nl_int, nl_long, nl_ref, nl_null, nl_none, rf_n, rf_s, rf_st, tl_s, tl_n, g0, gS, ex1, nb_b, nb_0, nb_1, nf_i, nf_l, nf_ra, nf_ro, nf_na, nf_no, nf_b0, nf_z0, t45_4, t45_5, true_and, and_true, List.set_cons_zero, List.set_cons_succ, List.length_cons, List.length_nil, rd_s, upw_s, ne_eq, not_false_eq_true, Nat.zero_add, Nat.add_zero]
    | split
    | with_reducible intro _
    | omega
end
end
/-! 67.22.class2.lean.txt -/
section
section
variable {g : RO} {Q : Ot → Hw → Prop} {w0 w : Hw} {x nA cA lA : Nat} {kn : Int32}
set_option maxHeartbeats 4000000 in
theorem lX1_cardsLike_4 {a0 : Nat} (hC : CC g w0 x nA cA lA kn w) (h0 : isR w a0) (hQ : ∀ v : Int32, Q (.inl (some (.int v))) w) : ∀ (n rf md : Int32) (f : Nat → Int64) (gc gl : Nat → Option Nat), RO5 g w x nA cA lA n rf kn md f gc gl → ∀ (d : Nat) (i2 : Int32) (i3 : Int32) (i4 : Option Value) (k m : Nat), ¬ i3 < 0 → (6 : Int32).toInt - i3.toInt ≤ (d : Int) → k ≤ 0 → m ≤ 0 → WP (MX1_cardsLike g) Q (4, [some (.ref x), some (.ref a0), some (.int i2), some (.int i3), i4], [], w, k, m) := by
  rintro n rf md f gc gl ⟨hx, hn, hc, hl, hgc, hgl, hn0, hn1, rx, rn, rc, rl, ⟨d1, d2, d3, d4, d5, d6⟩, ⟨d7, d8, d9, d10, d11, d12⟩⟩ d
  induction d with
  | zero =>
    intro i2 i3 i4 k m z0 hm hk hs
    rw [eX1_cardsLike_4]
    repeat' first
      | with_reducible assumption
      | with_reducible refine And.intro ?_ ?_
      | with_reducible exact vpi6 (by assumption) (by assumption)
      | with_reducible exact vpi8 (by assumption) (by assumption)
      | with_reducible exact (ic_z (by assumption) (by assumption)).elim
      | with_reducible exact vpi12 (by assumption) (by assumption) (by assumption)
      | with_reducible refine sX0_matchesR (by first | assumption | exact hgc _ _ (by assumption) | exact hgl _ _ (by assumption) | exact isR.ext (by assumption) (by assumption)) (by first | assumption | exact hgc _ _ (by assumption) | exact hgl _ _ (by assumption) | exact isR.ext (by assumption) (by assumption)) ?_
      | with_reducible refine sX0_matchesN (by first | assumption | exact hgc _ _ (by assumption) | exact hgl _ _ (by assumption) | exact isR.ext (by assumption) (by assumption)) ?_
      | with_reducible refine sX0_hash (by first | assumption | exact hgc _ _ (by assumption) | exact hgl _ _ (by assumption) | exact isR.ext (by assumption) (by assumption)) ?_
      | with_reducible refine go_R (by first | assumption | exact hgc _ _ (by assumption) | exact hgl _ _ (by assumption) | exact isR.ext (by assumption) (by assumption)) ?_
      | with_reducible exact hQ _
      | simp only [eX1_cardsLike_0, eX1_cardsLike_1, eX1_cardsLike_2, eX1_cardsLike_3, eX1_cardsLike_5, eX1_cardsLike_7, eX1_cardsLike_10, eX1_cardsLike_10N, eX1_cardsLike_11, eX1_cardsLike_14, eX1_cardsLike_15, eX1_cardsLike_16, eX1_cardsLike_16N, eX1_cardsLike_18, eX1_cardsLike_18N, eX1_cardsLike_20R, eX1_cardsLike_20N, eX1_cardsLike_23, eX1_cardsLike_23N, eX1_cardsLike_24, eX1_cardsLike_24N, eX1_cardsLike_26R, eX1_cardsLike_26N, eX1_cardsLike_29, eX1_cardsLike_32, eX1_cardsLike_32N, eX1_cardsLike_33, eX1_cardsLike_36, eX1_cardsLike_36N, eX1_cardsLike_38, eX1_cardsLike_41, eX1_cardsLike_42, eX1_cardsLike_45, eX1_cardsLike_46, eX1_cardsLike_47, eX1_cardsLike_48, eX1_cardsLike_49, eX1_cardsLike_50, eX1_cardsLike_51, eX1_cardsLike_54, eX1_cardsLike_57, eX1_cardsLike_58, rx, rn, rc, rl, hx, hn, hc, hl, d1, d2, d3, d4, d5, d6, d7, d8, d9, d10, d11, d12, rd_n, upw_n, ite_le, n45, n54, true_or, or_true, false_or, or_false, false_and, and_false, kx_l, kx_r, go_s, gl_s, gi_s, gb_s2, gb_s3, gq_s, wt_nil, wt_int, wt_long, wt_ref, wt_null, nl_int, nl_long, nl_ref, nl_null, nl_none, rf_n, rf_s, rf_st, tl_s, tl_n, g0, gS, ex1, nb_b, nb_0, nb_1, nf_i, nf_l, nf_ra, nf_ro, nf_na, nf_no, nf_b0, nf_z0, t45_4, t45_5, true_and, and_true, List.set_cons_zero, List.set_cons_succ, List.length_cons, List.length_nil, rd_s, upw_s, ne_eq, not_false_eq_true, Nat.zero_add, Nat.add_zero]
      | split
      | with_reducible intro _
      | omega
  | succ d ih =>
    intro i2 i3 i4 k m z0 hm hk hs
    rw [eX1_cardsLike_4]
    repeat' first
      | with_reducible assumption
      | with_reducible refine And.intro ?_ ?_
      | with_reducible exact vpi6 (by assumption) (by assumption)
      | with_reducible exact vpi8 (by assumption) (by assumption)
      | with_reducible exact ih _ _ _ _ _ (ic_p (by assumption) (by assumption)) (ic_s (by assumption) (by assumption)) (by first | assumption | omega) (by first | assumption | omega)
      | with_reducible exact vpi12 (by assumption) (by assumption) (by assumption)
      | with_reducible refine sX0_matchesR (by first | assumption | exact hgc _ _ (by assumption) | exact hgl _ _ (by assumption) | exact isR.ext (by assumption) (by assumption)) (by first | assumption | exact hgc _ _ (by assumption) | exact hgl _ _ (by assumption) | exact isR.ext (by assumption) (by assumption)) ?_
      | with_reducible refine sX0_matchesN (by first | assumption | exact hgc _ _ (by assumption) | exact hgl _ _ (by assumption) | exact isR.ext (by assumption) (by assumption)) ?_
      | with_reducible refine sX0_hash (by first | assumption | exact hgc _ _ (by assumption) | exact hgl _ _ (by assumption) | exact isR.ext (by assumption) (by assumption)) ?_
      | with_reducible refine go_R (by first | assumption | exact hgc _ _ (by assumption) | exact hgl _ _ (by assumption) | exact isR.ext (by assumption) (by assumption)) ?_
      | with_reducible exact hQ _
      | simp only [eX1_cardsLike_0, eX1_cardsLike_1, eX1_cardsLike_2, eX1_cardsLike_3, eX1_cardsLike_5, eX1_cardsLike_7, eX1_cardsLike_10, eX1_cardsLike_10N, eX1_cardsLike_11, eX1_cardsLike_14, eX1_cardsLike_15, eX1_cardsLike_16, eX1_cardsLike_16N, eX1_cardsLike_18, eX1_cardsLike_18N, eX1_cardsLike_20R, eX1_cardsLike_20N, eX1_cardsLike_23, eX1_cardsLike_23N, eX1_cardsLike_24, eX1_cardsLike_24N, eX1_cardsLike_26R, eX1_cardsLike_26N, eX1_cardsLike_29, eX1_cardsLike_32, eX1_cardsLike_32N, eX1_cardsLike_33, eX1_cardsLike_36, eX1_cardsLike_36N, eX1_cardsLike_38, eX1_cardsLike_41, eX1_cardsLike_42, eX1_cardsLike_45, eX1_cardsLike_46, eX1_cardsLike_47, eX1_cardsLike_48, eX1_cardsLike_49, eX1_cardsLike_50, eX1_cardsLike_51, eX1_cardsLike_54, eX1_cardsLike_57, eX1_cardsLike_58, rx, rn, rc, rl, hx, hn, hc, hl, d1, d2, d3, d4, d5, d6, d7, d8, d9, d10, d11, d12, rd_n, upw_n, ite_le, n45, n54, true_or, or_true, false_or, or_false, false_and, and_false, kx_l, kx_r, go_s, gl_s, gi_s, gb_s2, gb_s3, gq_s, wt_nil, wt_int, wt_long, wt_ref, wt_null, nl_int, nl_long, nl_ref, nl_null, nl_none, rf_n, rf_s, rf_st, tl_s, tl_n, g0, gS, ex1, nb_b, nb_0, nb_1, nf_i, nf_l, nf_ra, nf_ro, nf_na, nf_no, nf_b0, nf_z0, t45_4, t45_5, true_and, and_true, List.set_cons_zero, List.set_cons_succ, List.length_cons, List.length_nil, rd_s, upw_s, ne_eq, not_false_eq_true, Nat.zero_add, Nat.add_zero]
      | split
      | with_reducible intro _
      | omega
set_option maxHeartbeats 4000000 in
theorem sX1_cardsLike {a0 : Nat} (hC : CC g w0 x nA cA lA kn w) (h0 : isR w a0) (hQ : ∀ v : Int32, Q (.inl (some (.int v))) w) : WP (MX1_cardsLike g) Q (0, [some (.ref x), some (.ref a0), none, none, none], [], w, 0, 0) := by
  obtain ⟨n, rf, md, f, gc, gl, hx, hn, hc, hl, hgc, hgl, hn0, hn1, rx, rn, rc, rl, ⟨d1, d2, d3, d4, d5, d6⟩, ⟨d7, d8, d9, d10, d11, d12⟩⟩ := hC.1.opn g
  repeat' first
    | with_reducible assumption
    | with_reducible refine And.intro ?_ ?_
    | with_reducible exact vpi6 (by assumption) (by assumption)
    | with_reducible exact vpi8 (by assumption) (by assumption)
    | with_reducible exact lX1_cardsLike_4 hC h0 hQ _ _ _ _ _ _ ⟨hx, hn, hc, hl, hgc, hgl, hn0, hn1, rx, rn, rc, rl, ⟨d1, d2, d3, d4, d5, d6⟩, ⟨d7, d8, d9, d10, d11, d12⟩⟩ 70 _ _ _ _ _ (by first | decide | assumption) (by first | decide | exact n12 (by assumption) | exact n60 (by assumption)) (by first | decide | omega) (by first | decide | omega)
    | with_reducible refine sX0_matchesR (by first | assumption | exact hgc _ _ (by assumption) | exact hgl _ _ (by assumption) | exact isR.ext (by assumption) (by assumption)) (by first | assumption | exact hgc _ _ (by assumption) | exact hgl _ _ (by assumption) | exact isR.ext (by assumption) (by assumption)) ?_
    | with_reducible refine sX0_matchesN (by first | assumption | exact hgc _ _ (by assumption) | exact hgl _ _ (by assumption) | exact isR.ext (by assumption) (by assumption)) ?_
    | with_reducible refine sX0_hash (by first | assumption | exact hgc _ _ (by assumption) | exact hgl _ _ (by assumption) | exact isR.ext (by assumption) (by assumption)) ?_
    | with_reducible refine go_R (by first | assumption | exact hgc _ _ (by assumption) | exact hgl _ _ (by assumption) | exact isR.ext (by assumption) (by assumption)) ?_
    | with_reducible exact hQ _
    | simp only [eX1_cardsLike_0, eX1_cardsLike_1, eX1_cardsLike_2, eX1_cardsLike_3, eX1_cardsLike_5, eX1_cardsLike_7, eX1_cardsLike_10, eX1_cardsLike_10N, eX1_cardsLike_11, eX1_cardsLike_14, eX1_cardsLike_15, eX1_cardsLike_16, eX1_cardsLike_16N, eX1_cardsLike_18, eX1_cardsLike_18N, eX1_cardsLike_20R, eX1_cardsLike_20N, eX1_cardsLike_23, eX1_cardsLike_23N, eX1_cardsLike_24, eX1_cardsLike_24N, eX1_cardsLike_26R, eX1_cardsLike_26N, eX1_cardsLike_29, eX1_cardsLike_32, eX1_cardsLike_32N, eX1_cardsLike_33, eX1_cardsLike_36, eX1_cardsLike_36N, eX1_cardsLike_38, eX1_cardsLike_41, eX1_cardsLike_42, eX1_cardsLike_45, eX1_cardsLike_46, eX1_cardsLike_47, eX1_cardsLike_48, eX1_cardsLike_49, eX1_cardsLike_50, eX1_cardsLike_51, eX1_cardsLike_54, eX1_cardsLike_57, eX1_cardsLike_58, rx, rn, rc, rl, hx, hn, hc, hl, d1, d2, d3, d4, d5, d6, d7, d8, d9, d10, d11, d12, rd_n, upw_n, ite_le, n45, n54, true_or, or_true, false_or, or_false, false_and, and_false, kx_l, kx_r, go_s, gl_s, gi_s, gb_s2, gb_s3, gq_s, wt_nil, wt_int, wt_long, wt_ref, wt_null, nl_int, nl_long, nl_ref, nl_null, nl_none, rf_n, rf_s, rf_st, tl_s, tl_n, g0, gS, ex1, nb_b, nb_0, nb_1, nf_i, nf_l, nf_ra, nf_ro, nf_na, nf_no, nf_b0, nf_z0, t45_4, t45_5, true_and, and_true, List.set_cons_zero, List.set_cons_succ, List.length_cons, List.length_nil, rd_s, upw_s, ne_eq, not_false_eq_true, Nat.zero_add, Nat.add_zero]
    | split
    | with_reducible intro _
    | omega
set_option maxHeartbeats 4000000 in
theorem lX1_cardsWithRange_4  (hC : CC g w0 x nA cA lA kn w) (hQ : ∀ v : Int32, Q (.inl (some (.int v))) w) : ∀ (n rf md : Int32) (f : Nat → Int64) (gc gl : Nat → Option Nat), RO5 g w x nA cA lA n rf kn md f gc gl → ∀ (d : Nat) (i1 : Int32) (i2 : Int32) (k m : Nat), ¬ i2 < 0 → (6 : Int32).toInt - i2.toInt ≤ (d : Int) → k ≤ 0 → m ≤ 0 → WP (MX1_cardsWithRange g) Q (4, [some (.ref x), some (.int i1), some (.int i2)], [], w, k, m) := by
  rintro n rf md f gc gl ⟨hx, hn, hc, hl, hgc, hgl, hn0, hn1, rx, rn, rc, rl, ⟨d1, d2, d3, d4, d5, d6⟩, ⟨d7, d8, d9, d10, d11, d12⟩⟩ d
  induction d with
  | zero =>
    intro i1 i2 k m z0 hm hk hs
    rw [eX1_cardsWithRange_4]
    repeat' first
      | with_reducible assumption
      | with_reducible refine And.intro ?_ ?_
      | with_reducible exact vpi6 (by assumption) (by assumption)
      | with_reducible exact vpi8 (by assumption) (by assumption)
      | with_reducible exact (ic_z (by assumption) (by assumption)).elim
      | with_reducible exact vpi12 (by assumption) (by assumption) (by assumption)
      | with_reducible refine sX1_asNumber ?_
      | with_reducible refine go_R (by first | assumption | exact hgc _ _ (by assumption) | exact hgl _ _ (by assumption) | exact isR.ext (by assumption) (by assumption)) ?_
      | with_reducible exact hQ _
      | simp only [eX1_cardsWithRange_0, eX1_cardsWithRange_1, eX1_cardsWithRange_2, eX1_cardsWithRange_3, eX1_cardsWithRange_5, eX1_cardsWithRange_7, eX1_cardsWithRange_10, eX1_cardsWithRange_11, eX1_cardsWithRange_11N, eX1_cardsWithRange_12, eX1_cardsWithRange_15, eX1_cardsWithRange_16, eX1_cardsWithRange_17R, eX1_cardsWithRange_17N, eX1_cardsWithRange_20, eX1_cardsWithRange_21, eX1_cardsWithRange_24, eX1_cardsWithRange_25, eX1_cardsWithRange_28, eX1_cardsWithRange_29, eX1_cardsWithRange_30, eX1_cardsWithRange_33, eX1_cardsWithRange_36, eX1_cardsWithRange_37, rx, rn, rc, rl, hx, hn, hc, hl, d1, d2, d3, d4, d5, d6, d7, d8, d9, d10, d11, d12, rd_n, upw_n, ite_le, n45, n54, true_or, or_true, false_or, or_false, false_and, and_false, kx_l, kx_r, go_s, gl_s, gi_s, gb_s2, gb_s3, gq_s, wt_nil, wt_int, wt_long, wt_ref, wt_null, nl_int, nl_long, nl_ref, nl_null, nl_none, rf_n, rf_s, rf_st, tl_s, tl_n, g0, gS, ex1, nb_b, nb_0, nb_1, nf_i, nf_l, nf_ra, nf_ro, nf_na, nf_no, nf_b0, nf_z0, t45_4, t45_5, true_and, and_true, List.set_cons_zero, List.set_cons_succ, List.length_cons, List.length_nil, rd_s, upw_s, ne_eq, not_false_eq_true, Nat.zero_add, Nat.add_zero]
      | split
      | with_reducible intro _
      | omega
  | succ d ih =>
    intro i1 i2 k m z0 hm hk hs
    rw [eX1_cardsWithRange_4]
    repeat' first
      | with_reducible assumption
      | with_reducible refine And.intro ?_ ?_
      | with_reducible exact vpi6 (by assumption) (by assumption)
      | with_reducible exact vpi8 (by assumption) (by assumption)
      | with_reducible exact ih _ _ _ _ (ic_p (by assumption) (by assumption)) (ic_s (by assumption) (by assumption)) (by first | assumption | omega) (by first | assumption | omega)
      | with_reducible exact vpi12 (by assumption) (by assumption) (by assumption)
      | with_reducible refine sX1_asNumber ?_
      | with_reducible refine go_R (by first | assumption | exact hgc _ _ (by assumption) | exact hgl _ _ (by assumption) | exact isR.ext (by assumption) (by assumption)) ?_
      | with_reducible exact hQ _
      | simp only [eX1_cardsWithRange_0, eX1_cardsWithRange_1, eX1_cardsWithRange_2, eX1_cardsWithRange_3, eX1_cardsWithRange_5, eX1_cardsWithRange_7, eX1_cardsWithRange_10, eX1_cardsWithRange_11, eX1_cardsWithRange_11N, eX1_cardsWithRange_12, eX1_cardsWithRange_15, eX1_cardsWithRange_16, eX1_cardsWithRange_17R, eX1_cardsWithRange_17N, eX1_cardsWithRange_20, eX1_cardsWithRange_21, eX1_cardsWithRange_24, eX1_cardsWithRange_25, eX1_cardsWithRange_28, eX1_cardsWithRange_29, eX1_cardsWithRange_30, eX1_cardsWithRange_33, eX1_cardsWithRange_36, eX1_cardsWithRange_37, rx, rn, rc, rl, hx, hn, hc, hl, d1, d2, d3, d4, d5, d6, d7, d8, d9, d10, d11, d12, rd_n, upw_n, ite_le, n45, n54, true_or, or_true, false_or, or_false, false_and, and_false, kx_l, kx_r, go_s, gl_s, gi_s, gb_s2, gb_s3, gq_s, wt_nil, wt_int, wt_long, wt_ref, wt_null, nl_int, nl_long, nl_ref, nl_null, nl_none, rf_n, rf_s, rf_st, tl_s, tl_n, g0, gS, ex1, nb_b, nb_0, nb_1, nf_i, nf_l, nf_ra, nf_ro, nf_na, nf_no, nf_b0, nf_z0, t45_4, t45_5, true_and, and_true, List.set_cons_zero, List.set_cons_succ, List.length_cons, List.length_nil, rd_s, upw_s, ne_eq, not_false_eq_true, Nat.zero_add, Nat.add_zero]
      | split
      | with_reducible intro _
      | omega
set_option maxHeartbeats 4000000 in
theorem sX1_cardsWithRange  (hC : CC g w0 x nA cA lA kn w) (hQ : ∀ v : Int32, Q (.inl (some (.int v))) w) : WP (MX1_cardsWithRange g) Q (0, [some (.ref x), none, none], [], w, 0, 0) := by
  obtain ⟨n, rf, md, f, gc, gl, hx, hn, hc, hl, hgc, hgl, hn0, hn1, rx, rn, rc, rl, ⟨d1, d2, d3, d4, d5, d6⟩, ⟨d7, d8, d9, d10, d11, d12⟩⟩ := hC.1.opn g
  repeat' first
    | with_reducible assumption
    | with_reducible refine And.intro ?_ ?_
    | with_reducible exact vpi6 (by assumption) (by assumption)
    | with_reducible exact vpi8 (by assumption) (by assumption)
    | with_reducible exact lX1_cardsWithRange_4 hC hQ _ _ _ _ _ _ ⟨hx, hn, hc, hl, hgc, hgl, hn0, hn1, rx, rn, rc, rl, ⟨d1, d2, d3, d4, d5, d6⟩, ⟨d7, d8, d9, d10, d11, d12⟩⟩ 70 _ _ _ _ (by first | decide | assumption) (by first | decide | exact n12 (by assumption) | exact n60 (by assumption)) (by first | decide | omega) (by first | decide | omega)
    | with_reducible refine sX1_asNumber ?_
    | with_reducible refine go_R (by first | assumption | exact hgc _ _ (by assumption) | exact hgl _ _ (by assumption) | exact isR.ext (by assumption) (by assumption)) ?_
    | with_reducible exact hQ _
    | simp only [eX1_cardsWithRange_0, eX1_cardsWithRange_1, eX1_cardsWithRange_2, eX1_cardsWithRange_3, eX1_cardsWithRange_5, eX1_cardsWithRange_7, eX1_cardsWithRange_10, eX1_cardsWithRange_11, eX1_cardsWithRange_11N, eX1_cardsWithRange_12, eX1_cardsWithRange_15, eX1_cardsWithRange_16, eX1_cardsWithRange_17R, eX1_cardsWithRange_17N, eX1_cardsWithRange_20, eX1_cardsWithRange_21, eX1_cardsWithRange_24, eX1_cardsWithRange_25, eX1_cardsWithRange_28, eX1_cardsWithRange_29, eX1_cardsWithRange_30, eX1_cardsWithRange_33, eX1_cardsWithRange_36, eX1_cardsWithRange_37, rx, rn, rc, rl, hx, hn, hc, hl, d1, d2, d3, d4, d5, d6, d7, d8, d9, d10, d11, d12, rd_n, upw_n, ite_le, n45, n54, true_or, or_true, false_or, or_false, false_and, and_false, kx_l, kx_r, go_s, gl_s, gi_s, gb_s2, gb_s3, gq_s, wt_nil, wt_int, wt_long, wt_ref, wt_null, nl_int, nl_long, nl_ref, nl_null, nl_none, rf_n, rf_s, rf_st, tl_s, tl_n, g0, gS, ex1, nb_b, nb_0, nb_1, nf_i, nf_l, nf_ra, nf_ro, nf_na, nf_no, nf_b0, nf_z0, t45_4, t45_5, true_and, and_true, List.set_cons_zero, List.set_cons_succ, List.length_cons, List.length_nil, rd_s, upw_s, ne_eq, not_false_eq_true, Nat.zero_add, Nat.add_zero]
    | split
    | with_reducible intro _
    | omega
set_option maxHeartbeats 4000000 in
theorem lX1_firstPlaceOf_2 {a0 : Nat} (hC : CC g w0 x nA cA lA kn w) (h0 : isR w a0) (hQ : ∀ v : Int32, Q (.inl (some (.int v))) w) : ∀ (n rf md : Int32) (f : Nat → Int64) (gc gl : Nat → Option Nat), RO5 g w x nA cA lA n rf kn md f gc gl → ∀ (d : Nat) (i2 : Int32) (k m : Nat), ¬ i2 < 0 → (n : Int32).toInt - i2.toInt ≤ (d : Int) → k ≤ 0 → m ≤ 0 → WP (MX1_firstPlaceOf g) Q (2, [some (.ref x), some (.ref a0), some (.int i2)], [], w, k, m) := by
  rintro n rf md f gc gl ⟨hx, hn, hc, hl, hgc, hgl, hn0, hn1, rx, rn, rc, rl, ⟨d1, d2, d3, d4, d5, d6⟩, ⟨d7, d8, d9, d10, d11, d12⟩⟩ d
  induction d with
  | zero =>
    intro i2 k m z0 hm hk hs
    rw [eX1_firstPlaceOf_2]
    repeat' first
      | with_reducible assumption
      | with_reducible refine And.intro ?_ ?_
      | with_reducible exact vpi6 (by assumption) (by assumption)
      | with_reducible exact vpi8 (by assumption) (by assumption)
      | with_reducible exact (ic_z (by assumption) (by assumption)).elim
      | with_reducible exact vpi12 (by assumption) (by assumption) (by assumption)
      | with_reducible refine sX0_matchesR (by first | assumption | exact hgc _ _ (by assumption) | exact hgl _ _ (by assumption) | exact isR.ext (by assumption) (by assumption)) (by first | assumption | exact hgc _ _ (by assumption) | exact hgl _ _ (by assumption) | exact isR.ext (by assumption) (by assumption)) ?_
      | with_reducible refine sX0_matchesN (by first | assumption | exact hgc _ _ (by assumption) | exact hgl _ _ (by assumption) | exact isR.ext (by assumption) (by assumption)) ?_
      | with_reducible refine go_R (by first | assumption | exact hgc _ _ (by assumption) | exact hgl _ _ (by assumption) | exact isR.ext (by assumption) (by assumption)) ?_
      | with_reducible exact hQ _
      | simp only [eX1_firstPlaceOf_0, eX1_firstPlaceOf_1, eX1_firstPlaceOf_3, eX1_firstPlaceOf_3N, eX1_firstPlaceOf_4, eX1_firstPlaceOf_7, eX1_firstPlaceOf_10, eX1_firstPlaceOf_10N, eX1_firstPlaceOf_11, eX1_firstPlaceOf_11N, eX1_firstPlaceOf_12, eX1_firstPlaceOf_15, eX1_firstPlaceOf_16, eX1_firstPlaceOf_17R, eX1_firstPlaceOf_17N, eX1_firstPlaceOf_20, eX1_firstPlaceOf_23, eX1_firstPlaceOf_24, eX1_firstPlaceOf_25, eX1_firstPlaceOf_28, eX1_firstPlaceOf_31, eX1_firstPlaceOf_32, rx, rn, rc, rl, hx, hn, hc, hl, d1, d2, d3, d4, d5, d6, d7, d8, d9, d10, d11, d12, rd_n, upw_n, ite_le, n45, n54, true_or, or_true, false_or, or_false, false_and, and_false, kx_l, kx_r, go_s, gl_s, gi_s, gb_s2, gb_s3, gq_s, wt_nil, wt_int, wt_long, wt_ref, wt_null, nl_int, nl_long, nl_ref, nl_null, nl_none, rf_n, rf_s, rf_st, tl_s, tl_n, g0, gS, ex1, nb_b, nb_0, nb_1, nf_i, nf_l, nf_ra, nf_ro, nf_na, nf_no, nf_b0, nf_z0, t45_4, t45_5, true_and, and_true, List.set_cons_zero, List.set_cons_succ, List.length_cons, List.length_nil, rd_s, upw_s, ne_eq, not_false_eq_true, Nat.zero_add, Nat.add_zero]
      | split
      | with_reducible intro _
      | omega
  | succ d ih =>
    intro i2 k m z0 hm hk hs
    rw [eX1_firstPlaceOf_2]
    repeat' first
      | with_reducible assumption
      | with_reducible refine And.intro ?_ ?_
      | with_reducible exact vpi6 (by assumption) (by assumption)
      | with_reducible exact vpi8 (by assumption) (by assumption)
      | with_reducible exact ih _ _ _ (ic_p (by assumption) (by assumption)) (ic_s (by assumption) (by assumption)) (by first | assumption | omega) (by first | assumption | omega)
      | with_reducible exact vpi12 (by assumption) (by assumption) (by assumption)
      | with_reducible refine sX0_matchesR (by first | assumption | exact hgc _ _ (by assumption) | exact hgl _ _ (by assumption) | exact isR.ext (by assumption) (by assumption)) (by first | assumption | exact hgc _ _ (by assumption) | exact hgl _ _ (by assumption) | exact isR.ext (by assumption) (by assumption)) ?_
      | with_reducible refine sX0_matchesN (by first | assumption | exact hgc _ _ (by assumption) | exact hgl _ _ (by assumption) | exact isR.ext (by assumption) (by assumption)) ?_
      | with_reducible refine go_R (by first | assumption | exact hgc _ _ (by assumption) | exact hgl _ _ (by assumption) | exact isR.ext (by assumption) (by assumption)) ?_
      | with_reducible exact hQ _
      | simp only [eX1_firstPlaceOf_0, eX1_firstPlaceOf_1, eX1_firstPlaceOf_3, eX1_firstPlaceOf_3N, eX1_firstPlaceOf_4, eX1_firstPlaceOf_7, eX1_firstPlaceOf_10, eX1_firstPlaceOf_10N, eX1_firstPlaceOf_11, eX1_firstPlaceOf_11N, eX1_firstPlaceOf_12, eX1_firstPlaceOf_15, eX1_firstPlaceOf_16, eX1_firstPlaceOf_17R, eX1_firstPlaceOf_17N, eX1_firstPlaceOf_20, eX1_firstPlaceOf_23, eX1_firstPlaceOf_24, eX1_firstPlaceOf_25, eX1_firstPlaceOf_28, eX1_firstPlaceOf_31, eX1_firstPlaceOf_32, rx, rn, rc, rl, hx, hn, hc, hl, d1, d2, d3, d4, d5, d6, d7, d8, d9, d10, d11, d12, rd_n, upw_n, ite_le, n45, n54, true_or, or_true, false_or, or_false, false_and, and_false, kx_l, kx_r, go_s, gl_s, gi_s, gb_s2, gb_s3, gq_s, wt_nil, wt_int, wt_long, wt_ref, wt_null, nl_int, nl_long, nl_ref, nl_null, nl_none, rf_n, rf_s, rf_st, tl_s, tl_n, g0, gS, ex1, nb_b, nb_0, nb_1, nf_i, nf_l, nf_ra, nf_ro, nf_na, nf_no, nf_b0, nf_z0, t45_4, t45_5, true_and, and_true, List.set_cons_zero, List.set_cons_succ, List.length_cons, List.length_nil, rd_s, upw_s, ne_eq, not_false_eq_true, Nat.zero_add, Nat.add_zero]
      | split
      | with_reducible intro _
      | omega
set_option maxHeartbeats 4000000 in
theorem sX1_firstPlaceOf {a0 : Nat} (hC : CC g w0 x nA cA lA kn w) (h0 : isR w a0) (hQ : ∀ v : Int32, Q (.inl (some (.int v))) w) : WP (MX1_firstPlaceOf g) Q (0, [some (.ref x), some (.ref a0), none], [], w, 0, 0) := by
  obtain ⟨n, rf, md, f, gc, gl, hx, hn, hc, hl, hgc, hgl, hn0, hn1, rx, rn, rc, rl, ⟨d1, d2, d3, d4, d5, d6⟩, ⟨d7, d8, d9, d10, d11, d12⟩⟩ := hC.1.opn g
  repeat' first
    | with_reducible assumption
    | with_reducible refine And.intro ?_ ?_
    | with_reducible exact vpi6 (by assumption) (by assumption)
    | with_reducible exact vpi8 (by assumption) (by assumption)
    | with_reducible exact lX1_firstPlaceOf_2 hC h0 hQ _ _ _ _ _ _ ⟨hx, hn, hc, hl, hgc, hgl, hn0, hn1, rx, rn, rc, rl, ⟨d1, d2, d3, d4, d5, d6⟩, ⟨d7, d8, d9, d10, d11, d12⟩⟩ 70 _ _ _ (by first | decide | assumption) (by first | decide | exact n12 (by assumption) | exact n60 (by assumption)) (by first | decide | omega) (by first | decide | omega)
    | with_reducible refine sX0_matchesR (by first | assumption | exact hgc _ _ (by assumption) | exact hgl _ _ (by assumption) | exact isR.ext (by assumption) (by assumption)) (by first | assumption | exact hgc _ _ (by assumption) | exact hgl _ _ (by assumption) | exact isR.ext (by assumption) (by assumption)) ?_
    | with_reducible refine sX0_matchesN (by first | assumption | exact hgc _ _ (by assumption) | exact hgl _ _ (by assumption) | exact isR.ext (by assumption) (by assumption)) ?_
    | with_reducible refine go_R (by first | assumption | exact hgc _ _ (by assumption) | exact hgl _ _ (by assumption) | exact isR.ext (by assumption) (by assumption)) ?_
    | with_reducible exact hQ _
    | simp only [eX1_firstPlaceOf_0, eX1_firstPlaceOf_1, eX1_firstPlaceOf_3, eX1_firstPlaceOf_3N, eX1_firstPlaceOf_4, eX1_firstPlaceOf_7, eX1_firstPlaceOf_10, eX1_firstPlaceOf_10N, eX1_firstPlaceOf_11, eX1_firstPlaceOf_11N, eX1_firstPlaceOf_12, eX1_firstPlaceOf_15, eX1_firstPlaceOf_16, eX1_firstPlaceOf_17R, eX1_firstPlaceOf_17N, eX1_firstPlaceOf_20, eX1_firstPlaceOf_23, eX1_firstPlaceOf_24, eX1_firstPlaceOf_25, eX1_firstPlaceOf_28, eX1_firstPlaceOf_31, eX1_firstPlaceOf_32, rx, rn, rc, rl, hx, hn, hc, hl, d1, d2, d3, d4, d5, d6, d7, d8, d9, d10, d11, d12, rd_n, upw_n, ite_le, n45, n54, true_or, or_true, false_or, or_false, false_and, and_false, kx_l, kx_r, go_s, gl_s, gi_s, gb_s2, gb_s3, gq_s, wt_nil, wt_int, wt_long, wt_ref, wt_null, nl_int, nl_long, nl_ref, nl_null, nl_none, rf_n, rf_s, rf_st, tl_s, tl_n, g0, gS, ex1, nb_b, nb_0, nb_1, nf_i, nf_l, nf_ra, nf_ro, nf_na, nf_no, nf_b0, nf_z0, t45_4, t45_5, true_and, and_true, List.set_cons_zero, List.set_cons_succ, List.length_cons, List.length_nil, rd_s, upw_s, ne_eq, not_false_eq_true, Nat.zero_add, Nat.add_zero]
    | split
    | with_reducible intro _
    | omega
set_option maxHeartbeats 4000000 in
theorem lX1_lastPlaceOf_7 {a0 : Nat} (hC : CC g w0 x nA cA lA kn w) (h0 : isR w a0) (hQ : ∀ v : Int32, Q (.inl (some (.int v))) w) : ∀ (n rf md : Int32) (f : Nat → Int64) (gc gl : Nat → Option Nat), RO5 g w x nA cA lA n rf kn md f gc gl → ∀ (d : Nat) (i2 : Int32) (k m : Nat), i2 < n → i2.toInt + 1 ≤ (d : Int) → k ≤ 0 → m ≤ 0 → WP (MX1_lastPlaceOf g) Q (7, [some (.ref x), some (.ref a0), some (.int i2)], [], w, k, m) := by
  rintro n rf md f gc gl ⟨hx, hn, hc, hl, hgc, hgl, hn0, hn1, rx, rn, rc, rl, ⟨d1, d2, d3, d4, d5, d6⟩, ⟨d7, d8, d9, d10, d11, d12⟩⟩ d
  induction d with
  | zero =>
    intro i2 k m k0 hm hk hs
    rw [eX1_lastPlaceOf_7]
    repeat' first
      | with_reducible assumption
      | with_reducible refine And.intro ?_ ?_
      | with_reducible exact vpi6 (by assumption) (by assumption)
      | with_reducible exact vpi8 (by assumption) (by assumption)
      | with_reducible exact (id_z (by assumption) (by assumption)).elim
      | with_reducible exact vpi12 (by assumption) (by assumption) (by assumption)
      | with_reducible refine sX0_matchesR (by first | assumption | exact hgc _ _ (by assumption) | exact hgl _ _ (by assumption) | exact isR.ext (by assumption) (by assumption)) (by first | assumption | exact hgc _ _ (by assumption) | exact hgl _ _ (by assumption) | exact isR.ext (by assumption) (by assumption)) ?_
      | with_reducible refine sX0_matchesN (by first | assumption | exact hgc _ _ (by assumption) | exact hgl _ _ (by assumption) | exact isR.ext (by assumption) (by assumption)) ?_
      | with_reducible refine go_R (by first | assumption | exact hgc _ _ (by assumption) | exact hgl _ _ (by assumption) | exact isR.ext (by assumption) (by assumption)) ?_
      | with_reducible exact hQ _
      | simp only [eX1_lastPlaceOf_0, eX1_lastPlaceOf_0N, eX1_lastPlaceOf_1, eX1_lastPlaceOf_4, eX1_lastPlaceOf_5, eX1_lastPlaceOf_6, eX1_lastPlaceOf_8, eX1_lastPlaceOf_11, eX1_lastPlaceOf_11N, eX1_lastPlaceOf_12, eX1_lastPlaceOf_12N, eX1_lastPlaceOf_13, eX1_lastPlaceOf_16, eX1_lastPlaceOf_17, eX1_lastPlaceOf_18R, eX1_lastPlaceOf_18N, eX1_lastPlaceOf_21, eX1_lastPlaceOf_24, eX1_lastPlaceOf_25, eX1_lastPlaceOf_26, eX1_lastPlaceOf_29, eX1_lastPlaceOf_32, eX1_lastPlaceOf_33, rx, rn, rc, rl, hx, hn, hc, hl, d1, d2, d3, d4, d5, d6, d7, d8, d9, d10, d11, d12, rd_n, upw_n, ite_le, n45, n54, true_or, or_true, false_or, or_false, false_and, and_false, kx_l, kx_r, go_s, gl_s, gi_s, gb_s2, gb_s3, gq_s, wt_nil, wt_int, wt_long, wt_ref, wt_null, nl_int, nl_long, nl_ref, nl_null, nl_none, rf_n, rf_s, rf_st, tl_s, tl_n, g0, gS, ex1, nb_b, nb_0, nb_1, nf_i, nf_l, nf_ra, nf_ro, nf_na, nf_no, nf_b0, nf_z0, t45_4, t45_5, true_and, and_true, List.set_cons_zero, List.set_cons_succ, List.length_cons, List.length_nil, rd_s, upw_s, ne_eq, not_false_eq_true, Nat.zero_add, Nat.add_zero]
      | split
      | with_reducible intro _
      | omega
  | succ d ih =>
    intro i2 k m k0 hm hk hs
    rw [eX1_lastPlaceOf_7]
    repeat' first
      | with_reducible assumption
      | with_reducible refine And.intro ?_ ?_
      | with_reducible exact vpi6 (by assumption) (by assumption)
      | with_reducible exact vpi8 (by assumption) (by assumption)
      | with_reducible exact ih _ _ _ (id_p (by assumption) (by assumption)) (id_s (by assumption) (by assumption)) (by first | assumption | omega) (by first | assumption | omega)
      | with_reducible exact vpi12 (by assumption) (by assumption) (by assumption)
      | with_reducible refine sX0_matchesR (by first | assumption | exact hgc _ _ (by assumption) | exact hgl _ _ (by assumption) | exact isR.ext (by assumption) (by assumption)) (by first | assumption | exact hgc _ _ (by assumption) | exact hgl _ _ (by assumption) | exact isR.ext (by assumption) (by assumption)) ?_
      | with_reducible refine sX0_matchesN (by first | assumption | exact hgc _ _ (by assumption) | exact hgl _ _ (by assumption) | exact isR.ext (by assumption) (by assumption)) ?_
      | with_reducible refine go_R (by first | assumption | exact hgc _ _ (by assumption) | exact hgl _ _ (by assumption) | exact isR.ext (by assumption) (by assumption)) ?_
      | with_reducible exact hQ _
      | simp only [eX1_lastPlaceOf_0, eX1_lastPlaceOf_0N, eX1_lastPlaceOf_1, eX1_lastPlaceOf_4, eX1_lastPlaceOf_5, eX1_lastPlaceOf_6, eX1_lastPlaceOf_8, eX1_lastPlaceOf_11, eX1_lastPlaceOf_11N, eX1_lastPlaceOf_12, eX1_lastPlaceOf_12N, eX1_lastPlaceOf_13, eX1_lastPlaceOf_16, eX1_lastPlaceOf_17, eX1_lastPlaceOf_18R, eX1_lastPlaceOf_18N, eX1_lastPlaceOf_21, eX1_lastPlaceOf_24, eX1_lastPlaceOf_25, eX1_lastPlaceOf_26, eX1_lastPlaceOf_29, eX1_lastPlaceOf_32, eX1_lastPlaceOf_33, rx, rn, rc, rl, hx, hn, hc, hl, d1, d2, d3, d4, d5, d6, d7, d8, d9, d10, d11, d12, rd_n, upw_n, ite_le, n45, n54, true_or, or_true, false_or, or_false, false_and, and_false, kx_l, kx_r, go_s, gl_s, gi_s, gb_s2, gb_s3, gq_s, wt_nil, wt_int, wt_long, wt_ref, wt_null, nl_int, nl_long, nl_ref, nl_null, nl_none, rf_n, rf_s, rf_st, tl_s, tl_n, g0, gS, ex1, nb_b, nb_0, nb_1, nf_i, nf_l, nf_ra, nf_ro, nf_na, nf_no, nf_b0, nf_z0, t45_4, t45_5, true_and, and_true, List.set_cons_zero, List.set_cons_succ, List.length_cons, List.length_nil, rd_s, upw_s, ne_eq, not_false_eq_true, Nat.zero_add, Nat.add_zero]
      | split
      | with_reducible intro _
      | omega
set_option maxHeartbeats 4000000 in
theorem sX1_lastPlaceOf {a0 : Nat} (hC : CC g w0 x nA cA lA kn w) (h0 : isR w a0) (hQ : ∀ v : Int32, Q (.inl (some (.int v))) w) : WP (MX1_lastPlaceOf g) Q (0, [some (.ref x), some (.ref a0), none], [], w, 0, 0) := by
  obtain ⟨n, rf, md, f, gc, gl, hx, hn, hc, hl, hgc, hgl, hn0, hn1, rx, rn, rc, rl, ⟨d1, d2, d3, d4, d5, d6⟩, ⟨d7, d8, d9, d10, d11, d12⟩⟩ := hC.1.opn g
  repeat' first
    | with_reducible assumption
    | with_reducible refine And.intro ?_ ?_
    | with_reducible exact vpi6 (by assumption) (by assumption)
    | with_reducible exact vpi8 (by assumption) (by assumption)
    | with_reducible exact lX1_lastPlaceOf_7 hC h0 hQ _ _ _ _ _ _ ⟨hx, hn, hc, hl, hgc, hgl, hn0, hn1, rx, rn, rc, rl, ⟨d1, d2, d3, d4, d5, d6⟩, ⟨d7, d8, d9, d10, d11, d12⟩⟩ 70 _ _ _ (id_e (by assumption) (by assumption)) (id_m (by assumption) (by assumption)) (by first | decide | omega) (by first | decide | omega)
    | with_reducible refine sX0_matchesR (by first | assumption | exact hgc _ _ (by assumption) | exact hgl _ _ (by assumption) | exact isR.ext (by assumption) (by assumption)) (by first | assumption | exact hgc _ _ (by assumption) | exact hgl _ _ (by assumption) | exact isR.ext (by assumption) (by assumption)) ?_
    | with_reducible refine sX0_matchesN (by first | assumption | exact hgc _ _ (by assumption) | exact hgl _ _ (by assumption) | exact isR.ext (by assumption) (by assumption)) ?_
    | with_reducible refine go_R (by first | assumption | exact hgc _ _ (by assumption) | exact hgl _ _ (by assumption) | exact isR.ext (by assumption) (by assumption)) ?_
    | with_reducible exact hQ _
    | simp only [eX1_lastPlaceOf_0, eX1_lastPlaceOf_0N, eX1_lastPlaceOf_1, eX1_lastPlaceOf_4, eX1_lastPlaceOf_5, eX1_lastPlaceOf_6, eX1_lastPlaceOf_8, eX1_lastPlaceOf_11, eX1_lastPlaceOf_11N, eX1_lastPlaceOf_12, eX1_lastPlaceOf_12N, eX1_lastPlaceOf_13, eX1_lastPlaceOf_16, eX1_lastPlaceOf_17, eX1_lastPlaceOf_18R, eX1_lastPlaceOf_18N, eX1_lastPlaceOf_21, eX1_lastPlaceOf_24, eX1_lastPlaceOf_25, eX1_lastPlaceOf_26, eX1_lastPlaceOf_29, eX1_lastPlaceOf_32, eX1_lastPlaceOf_33, rx, rn, rc, rl, hx, hn, hc, hl, d1, d2, d3, d4, d5, d6, d7, d8, d9, d10, d11, d12, rd_n, upw_n, ite_le, n45, n54, true_or, or_true, false_or, or_false, false_and, and_false, kx_l, kx_r, go_s, gl_s, gi_s, gb_s2, gb_s3, gq_s, wt_nil, wt_int, wt_long, wt_ref, wt_null, nl_int, nl_long, nl_ref, nl_null, nl_none, rf_n, rf_s, rf_st, tl_s, tl_n, g0, gS, ex1, nb_b, nb_0, nb_1, nf_i, nf_l, nf_ra, nf_ro, nf_na, nf_no, nf_b0, nf_z0, t45_4, t45_5, true_and, and_true, List.set_cons_zero, List.set_cons_succ, List.length_cons, List.length_nil, rd_s, upw_s, ne_eq, not_false_eq_true, Nat.zero_add, Nat.add_zero]
    | split
    | with_reducible intro _
    | omega
set_option maxHeartbeats 4000000 in
theorem lX1_timesLaid_4 {a0 : Nat} (hC : CC g w0 x nA cA lA kn w) (h0 : isR w a0) (hQ : ∀ v : Int32, Q (.inl (some (.int v))) w) : ∀ (n rf md : Int32) (f : Nat → Int64) (gc gl : Nat → Option Nat), RO5 g w x nA cA lA n rf kn md f gc gl → ∀ (d : Nat) (i2 : Int32) (i3 : Int32) (k m : Nat), ¬ i3 < 0 → (n : Int32).toInt - i3.toInt ≤ (d : Int) → k ≤ 0 → m ≤ 0 → WP (MX1_timesLaid g) Q (4, [some (.ref x), some (.ref a0), some (.int i2), some (.int i3)], [], w, k, m) := by
  rintro n rf md f gc gl ⟨hx, hn, hc, hl, hgc, hgl, hn0, hn1, rx, rn, rc, rl, ⟨d1, d2, d3, d4, d5, d6⟩, ⟨d7, d8, d9, d10, d11, d12⟩⟩ d
  induction d with
  | zero =>
    intro i2 i3 k m z0 hm hk hs
    rw [eX1_timesLaid_4]
    repeat' first
      | with_reducible assumption
      | with_reducible refine And.intro ?_ ?_
      | with_reducible exact vpi6 (by assumption) (by assumption)
      | with_reducible exact vpi8 (by assumption) (by assumption)
      | with_reducible exact (ic_z (by assumption) (by assumption)).elim
      | with_reducible exact vpi12 (by assumption) (by assumption) (by assumption)
      | with_reducible refine sX0_matchesR (by first | assumption | exact hgc _ _ (by assumption) | exact hgl _ _ (by assumption) | exact isR.ext (by assumption) (by assumption)) (by first | assumption | exact hgc _ _ (by assumption) | exact hgl _ _ (by assumption) | exact isR.ext (by assumption) (by assumption)) ?_
      | with_reducible refine sX0_matchesN (by first | assumption | exact hgc _ _ (by assumption) | exact hgl _ _ (by assumption) | exact isR.ext (by assumption) (by assumption)) ?_
      | with_reducible refine sX1_asNumber ?_
      | with_reducible refine go_R (by first | assumption | exact hgc _ _ (by assumption) | exact hgl _ _ (by assumption) | exact isR.ext (by assumption) (by assumption)) ?_
      | with_reducible exact hQ _
      | simp only [eX1_timesLaid_0, eX1_timesLaid_1, eX1_timesLaid_2, eX1_timesLaid_3, eX1_timesLaid_5, eX1_timesLaid_5N, eX1_timesLaid_6, eX1_timesLaid_9, eX1_timesLaid_12, eX1_timesLaid_13, eX1_timesLaid_13N, eX1_timesLaid_14, eX1_timesLaid_14N, eX1_timesLaid_15, eX1_timesLaid_18, eX1_timesLaid_19, eX1_timesLaid_20R, eX1_timesLaid_20N, eX1_timesLaid_23, eX1_timesLaid_26, eX1_timesLaid_27, eX1_timesLaid_28, eX1_timesLaid_31, eX1_timesLaid_34, eX1_timesLaid_35, rx, rn, rc, rl, hx, hn, hc, hl, d1, d2, d3, d4, d5, d6, d7, d8, d9, d10, d11, d12, rd_n, upw_n, ite_le, n45, n54, true_or, or_true, false_or, or_false, false_and, and_false, kx_l, kx_r, go_s, gl_s, gi_s, gb_s2, gb_s3, gq_s, wt_nil, wt_int, wt_long, wt_ref, wt_null, nl_int, nl_long, nl_ref, nl_null, nl_none, rf_n, rf_s, rf_st, tl_s, tl_n, g0, gS, ex1, nb_b, nb_0, nb_1, nf_i, nf_l, nf_ra, nf_ro, nf_na, nf_no, nf_b0, nf_z0, t45_4, t45_5, true_and, and_true, List.set_cons_zero, List.set_cons_succ, List.length_cons, List.length_nil, rd_s, upw_s, ne_eq, not_false_eq_true, Nat.zero_add, Nat.add_zero]
      | split
      | with_reducible intro _
      | omega
  | succ d ih =>
    intro i2 i3 k m z0 hm hk hs
    rw [eX1_timesLaid_4]
    repeat' first
      | with_reducible assumption
      | with_reducible refine And.intro ?_ ?_
      | with_reducible exact vpi6 (by assumption) (by assumption)
      | with_reducible exact vpi8 (by assumption) (by assumption)
      | with_reducible exact ih _ _ _ _ (ic_p (by assumption) (by assumption)) (ic_s (by assumption) (by assumption)) (by first | assumption | omega) (by first | assumption | omega)
      | with_reducible exact vpi12 (by assumption) (by assumption) (by assumption)
      | with_reducible refine sX0_matchesR (by first | assumption | exact hgc _ _ (by assumption) | exact hgl _ _ (by assumption) | exact isR.ext (by assumption) (by assumption)) (by first | assumption | exact hgc _ _ (by assumption) | exact hgl _ _ (by assumption) | exact isR.ext (by assumption) (by assumption)) ?_
      | with_reducible refine sX0_matchesN (by first | assumption | exact hgc _ _ (by assumption) | exact hgl _ _ (by assumption) | exact isR.ext (by assumption) (by assumption)) ?_
      | with_reducible refine sX1_asNumber ?_
      | with_reducible refine go_R (by first | assumption | exact hgc _ _ (by assumption) | exact hgl _ _ (by assumption) | exact isR.ext (by assumption) (by assumption)) ?_
      | with_reducible exact hQ _
      | simp only [eX1_timesLaid_0, eX1_timesLaid_1, eX1_timesLaid_2, eX1_timesLaid_3, eX1_timesLaid_5, eX1_timesLaid_5N, eX1_timesLaid_6, eX1_timesLaid_9, eX1_timesLaid_12, eX1_timesLaid_13, eX1_timesLaid_13N, eX1_timesLaid_14, eX1_timesLaid_14N, eX1_timesLaid_15, eX1_timesLaid_18, eX1_timesLaid_19, eX1_timesLaid_20R, eX1_timesLaid_20N, eX1_timesLaid_23, eX1_timesLaid_26, eX1_timesLaid_27, eX1_timesLaid_28, eX1_timesLaid_31, eX1_timesLaid_34, eX1_timesLaid_35, rx, rn, rc, rl, hx, hn, hc, hl, d1, d2, d3, d4, d5, d6, d7, d8, d9, d10, d11, d12, rd_n, upw_n, ite_le, n45, n54, true_or, or_true, false_or, or_false, false_and, and_false, kx_l, kx_r, go_s, gl_s, gi_s, gb_s2, gb_s3, gq_s, wt_nil, wt_int, wt_long, wt_ref, wt_null, nl_int, nl_long, nl_ref, nl_null, nl_none, rf_n, rf_s, rf_st, tl_s, tl_n, g0, gS, ex1, nb_b, nb_0, nb_1, nf_i, nf_l, nf_ra, nf_ro, nf_na, nf_no, nf_b0, nf_z0, t45_4, t45_5, true_and, and_true, List.set_cons_zero, List.set_cons_succ, List.length_cons, List.length_nil, rd_s, upw_s, ne_eq, not_false_eq_true, Nat.zero_add, Nat.add_zero]
      | split
      | with_reducible intro _
      | omega
set_option maxHeartbeats 4000000 in
theorem sX1_timesLaid {a0 : Nat} (hC : CC g w0 x nA cA lA kn w) (h0 : isR w a0) (hQ : ∀ v : Int32, Q (.inl (some (.int v))) w) : WP (MX1_timesLaid g) Q (0, [some (.ref x), some (.ref a0), none, none], [], w, 0, 0) := by
  obtain ⟨n, rf, md, f, gc, gl, hx, hn, hc, hl, hgc, hgl, hn0, hn1, rx, rn, rc, rl, ⟨d1, d2, d3, d4, d5, d6⟩, ⟨d7, d8, d9, d10, d11, d12⟩⟩ := hC.1.opn g
  repeat' first
    | with_reducible assumption
    | with_reducible refine And.intro ?_ ?_
    | with_reducible exact vpi6 (by assumption) (by assumption)
    | with_reducible exact vpi8 (by assumption) (by assumption)
    | with_reducible exact lX1_timesLaid_4 hC h0 hQ _ _ _ _ _ _ ⟨hx, hn, hc, hl, hgc, hgl, hn0, hn1, rx, rn, rc, rl, ⟨d1, d2, d3, d4, d5, d6⟩, ⟨d7, d8, d9, d10, d11, d12⟩⟩ 70 _ _ _ _ (by first | decide | assumption) (by first | decide | exact n12 (by assumption) | exact n60 (by assumption)) (by first | decide | omega) (by first | decide | omega)
    | with_reducible refine sX0_matchesR (by first | assumption | exact hgc _ _ (by assumption) | exact hgl _ _ (by assumption) | exact isR.ext (by assumption) (by assumption)) (by first | assumption | exact hgc _ _ (by assumption) | exact hgl _ _ (by assumption) | exact isR.ext (by assumption) (by assumption)) ?_
    | with_reducible refine sX0_matchesN (by first | assumption | exact hgc _ _ (by assumption) | exact hgl _ _ (by assumption) | exact isR.ext (by assumption) (by assumption)) ?_
    | with_reducible refine sX1_asNumber ?_
    | with_reducible refine go_R (by first | assumption | exact hgc _ _ (by assumption) | exact hgl _ _ (by assumption) | exact isR.ext (by assumption) (by assumption)) ?_
    | with_reducible exact hQ _
    | simp only [eX1_timesLaid_0, eX1_timesLaid_1, eX1_timesLaid_2, eX1_timesLaid_3, eX1_timesLaid_5, eX1_timesLaid_5N, eX1_timesLaid_6, eX1_timesLaid_9, eX1_timesLaid_12, eX1_timesLaid_13, eX1_timesLaid_13N, eX1_timesLaid_14, eX1_timesLaid_14N, eX1_timesLaid_15, eX1_timesLaid_18, eX1_timesLaid_19, eX1_timesLaid_20R, eX1_timesLaid_20N, eX1_timesLaid_23, eX1_timesLaid_26, eX1_timesLaid_27, eX1_timesLaid_28, eX1_timesLaid_31, eX1_timesLaid_34, eX1_timesLaid_35, rx, rn, rc, rl, hx, hn, hc, hl, d1, d2, d3, d4, d5, d6, d7, d8, d9, d10, d11, d12, rd_n, upw_n, ite_le, n45, n54, true_or, or_true, false_or, or_false, false_and, and_false, kx_l, kx_r, go_s, gl_s, gi_s, gb_s2, gb_s3, gq_s, wt_nil, wt_int, wt_long, wt_ref, wt_null, nl_int, nl_long, nl_ref, nl_null, nl_none, rf_n, rf_s, rf_st, tl_s, tl_n, g0, gS, ex1, nb_b, nb_0, nb_1, nf_i, nf_l, nf_ra, nf_ro, nf_na, nf_no, nf_b0, nf_z0, t45_4, t45_5, true_and, and_true, List.set_cons_zero, List.set_cons_succ, List.length_cons, List.length_nil, rd_s, upw_s, ne_eq, not_false_eq_true, Nat.zero_add, Nat.add_zero]
    | split
    | with_reducible intro _
    | omega
end
end
/-! 67.22.class3.lean.txt -/
section
section
variable {g : RO} {Q : Ot → Hw → Prop} {w0 w : Hw} {x nA cA lA : Nat} {kn : Int32}
set_option maxHeartbeats 4000000 in
theorem sX1_isCounted {a0 : Nat} {a1 : Int32} {a2 : Int64} {a3 : Int32} (hC : CC g w0 x nA cA lA kn w) (h0 : isR w a0) (hQ : ∀ v : Bool, Q (.inl (some (.int (bI v)))) w) : WP (MX1_isCounted g) Q (0, [some (.ref x), some (.ref a0), some (.int a1), some (.long a2), none, some (.int a3)], [], w, 0, 0) := by
  obtain ⟨n, rf, md, f, gc, gl, hx, hn, hc, hl, hgc, hgl, hn0, hn1, rx, rn, rc, rl, ⟨d1, d2, d3, d4, d5, d6⟩, ⟨d7, d8, d9, d10, d11, d12⟩⟩ := hC.1.opn g
  have hQt : Q (.inl (some (.int 1))) w := hQ true
  have hQf : Q (.inl (some (.int 0))) w := hQ false
  rcases sw15 a3 with rfl | rfl | rfl | rfl | rfl | hsw
  · repeat' first
      | with_reducible assumption
      | with_reducible refine And.intro ?_ ?_
      | with_reducible exact vpi6 (by assumption) (by assumption)
      | with_reducible exact vpi8 (by assumption) (by assumption)
      | with_reducible refine sX0_holds (by first | assumption | exact hgc _ _ (by assumption) | exact hgl _ _ (by assumption) | exact isR.ext (by assumption) (by assumption)) ?_
      | with_reducible refine sX0_holdsAsSmall (by first | assumption | exact hgc _ _ (by assumption) | exact hgl _ _ (by assumption) | exact isR.ext (by assumption) (by assumption)) ?_
      | with_reducible refine sX0_isSettled (by first | assumption | exact hgc _ _ (by assumption) | exact hgl _ _ (by assumption) | exact isR.ext (by assumption) (by assumption)) ?_
      | with_reducible refine sX0_fitsSmall (by first | assumption | exact hgc _ _ (by assumption) | exact hgl _ _ (by assumption) | exact isR.ext (by assumption) (by assumption)) ?_
      | with_reducible refine sX1_firstPlaceOf (by first | assumption | exact CC.ext (by assumption) (by assumption)) (by first | assumption | exact hgc _ _ (by assumption) | exact hgl _ _ (by assumption) | exact isR.ext (by assumption) (by assumption)) ?_
      | with_reducible refine go_R (by first | assumption | exact hgc _ _ (by assumption) | exact hgl _ _ (by assumption) | exact isR.ext (by assumption) (by assumption)) ?_
      | with_reducible exact hQ _
      | with_reducible exact hQt
      | with_reducible exact hQf
      | simp only [eX1_isCounted_0, eX1_isCounted_2_0, eX1_isCounted_2_1, eX1_isCounted_2_2, eX1_isCounted_2_3, eX1_isCounted_2_4, eX1_isCounted_2_d6, eX1_isCounted_2_d7, eX1_isCounted_36, eX1_isCounted_36N, eX1_isCounted_37, eX1_isCounted_38, eX1_isCounted_41, eX1_isCounted_42, eX1_isCounted_42N, eX1_isCounted_43, eX1_isCounted_44, eX1_isCounted_47, eX1_isCounted_48, eX1_isCounted_48N, eX1_isCounted_49, eX1_isCounted_52, eX1_isCounted_53, eX1_isCounted_53N, eX1_isCounted_54, eX1_isCounted_57, eX1_isCounted_58, eX1_isCounted_58N, eX1_isCounted_59, eX1_isCounted_59N, eX1_isCounted_60R, eX1_isCounted_60N, eX1_isCounted_63, eX1_isCounted_64, eX1_isCounted_67, eX1_isCounted_68, eX1_isCounted_71, eX1_isCounted_72, eX1_isCounted_73, eX1_isCounted_74, rx, rn, rc, rl, hx, hn, hc, hl, d1, d2, d3, d4, d5, d6, d7, d8, d9, d10, d11, d12, rd_n, upw_n, ite_le, n45, n54, true_or, or_true, false_or, or_false, false_and, and_false, kx_l, kx_r, go_s, gl_s, gi_s, gb_s2, gb_s3, gq_s, wt_nil, wt_int, wt_long, wt_ref, wt_null, nl_int, nl_long, nl_ref, nl_null, nl_none, rf_n, rf_s, rf_st, tl_s, tl_n, g0, gS, ex1, nb_b, nb_0, nb_1, nf_i, nf_l, nf_ra, nf_ro, nf_na, nf_no, nf_b0, nf_z0, t45_4, t45_5, true_and, and_true, List.set_cons_zero, List.set_cons_succ, List.length_cons, List.length_nil, rd_s, upw_s, ne_eq, not_false_eq_true, Nat.zero_add, Nat.add_zero]
      | split
      | with_reducible intro _
      | omega
  · repeat' first
      | with_reducible assumption
      | with_reducible refine And.intro ?_ ?_
      | with_reducible exact vpi6 (by assumption) (by assumption)
      | with_reducible exact vpi8 (by assumption) (by assumption)
      | with_reducible refine sX0_holds (by first | assumption | exact hgc _ _ (by assumption) | exact hgl _ _ (by assumption) | exact isR.ext (by assumption) (by assumption)) ?_
      | with_reducible refine sX0_holdsAsSmall (by first | assumption | exact hgc _ _ (by assumption) | exact hgl _ _ (by assumption) | exact isR.ext (by assumption) (by assumption)) ?_
      | with_reducible refine sX0_isSettled (by first | assumption | exact hgc _ _ (by assumption) | exact hgl _ _ (by assumption) | exact isR.ext (by assumption) (by assumption)) ?_
      | with_reducible refine sX0_fitsSmall (by first | assumption | exact hgc _ _ (by assumption) | exact hgl _ _ (by assumption) | exact isR.ext (by assumption) (by assumption)) ?_
      | with_reducible refine sX1_firstPlaceOf (by first | assumption | exact CC.ext (by assumption) (by assumption)) (by first | assumption | exact hgc _ _ (by assumption) | exact hgl _ _ (by assumption) | exact isR.ext (by assumption) (by assumption)) ?_
      | with_reducible refine go_R (by first | assumption | exact hgc _ _ (by assumption) | exact hgl _ _ (by assumption) | exact isR.ext (by assumption) (by assumption)) ?_
      | with_reducible exact hQ _
      | with_reducible exact hQt
      | with_reducible exact hQf
      | simp only [eX1_isCounted_0, eX1_isCounted_2_0, eX1_isCounted_2_1, eX1_isCounted_2_2, eX1_isCounted_2_3, eX1_isCounted_2_4, eX1_isCounted_2_d6, eX1_isCounted_2_d7, eX1_isCounted_36, eX1_isCounted_36N, eX1_isCounted_37, eX1_isCounted_38, eX1_isCounted_41, eX1_isCounted_42, eX1_isCounted_42N, eX1_isCounted_43, eX1_isCounted_44, eX1_isCounted_47, eX1_isCounted_48, eX1_isCounted_48N, eX1_isCounted_49, eX1_isCounted_52, eX1_isCounted_53, eX1_isCounted_53N, eX1_isCounted_54, eX1_isCounted_57, eX1_isCounted_58, eX1_isCounted_58N, eX1_isCounted_59, eX1_isCounted_59N, eX1_isCounted_60R, eX1_isCounted_60N, eX1_isCounted_63, eX1_isCounted_64, eX1_isCounted_67, eX1_isCounted_68, eX1_isCounted_71, eX1_isCounted_72, eX1_isCounted_73, eX1_isCounted_74, rx, rn, rc, rl, hx, hn, hc, hl, d1, d2, d3, d4, d5, d6, d7, d8, d9, d10, d11, d12, rd_n, upw_n, ite_le, n45, n54, true_or, or_true, false_or, or_false, false_and, and_false, kx_l, kx_r, go_s, gl_s, gi_s, gb_s2, gb_s3, gq_s, wt_nil, wt_int, wt_long, wt_ref, wt_null, nl_int, nl_long, nl_ref, nl_null, nl_none, rf_n, rf_s, rf_st, tl_s, tl_n, g0, gS, ex1, nb_b, nb_0, nb_1, nf_i, nf_l, nf_ra, nf_ro, nf_na, nf_no, nf_b0, nf_z0, t45_4, t45_5, true_and, and_true, List.set_cons_zero, List.set_cons_succ, List.length_cons, List.length_nil, rd_s, upw_s, ne_eq, not_false_eq_true, Nat.zero_add, Nat.add_zero]
      | split
      | with_reducible intro _
      | omega
  · repeat' first
      | with_reducible assumption
      | with_reducible refine And.intro ?_ ?_
      | with_reducible exact vpi6 (by assumption) (by assumption)
      | with_reducible exact vpi8 (by assumption) (by assumption)
      | with_reducible refine sX0_holds (by first | assumption | exact hgc _ _ (by assumption) | exact hgl _ _ (by assumption) | exact isR.ext (by assumption) (by assumption)) ?_
      | with_reducible refine sX0_holdsAsSmall (by first | assumption | exact hgc _ _ (by assumption) | exact hgl _ _ (by assumption) | exact isR.ext (by assumption) (by assumption)) ?_
      | with_reducible refine sX0_isSettled (by first | assumption | exact hgc _ _ (by assumption) | exact hgl _ _ (by assumption) | exact isR.ext (by assumption) (by assumption)) ?_
      | with_reducible refine sX0_fitsSmall (by first | assumption | exact hgc _ _ (by assumption) | exact hgl _ _ (by assumption) | exact isR.ext (by assumption) (by assumption)) ?_
      | with_reducible refine sX1_firstPlaceOf (by first | assumption | exact CC.ext (by assumption) (by assumption)) (by first | assumption | exact hgc _ _ (by assumption) | exact hgl _ _ (by assumption) | exact isR.ext (by assumption) (by assumption)) ?_
      | with_reducible refine go_R (by first | assumption | exact hgc _ _ (by assumption) | exact hgl _ _ (by assumption) | exact isR.ext (by assumption) (by assumption)) ?_
      | with_reducible exact hQ _
      | with_reducible exact hQt
      | with_reducible exact hQf
      | simp only [eX1_isCounted_0, eX1_isCounted_2_0, eX1_isCounted_2_1, eX1_isCounted_2_2, eX1_isCounted_2_3, eX1_isCounted_2_4, eX1_isCounted_2_d6, eX1_isCounted_2_d7, eX1_isCounted_36, eX1_isCounted_36N, eX1_isCounted_37, eX1_isCounted_38, eX1_isCounted_41, eX1_isCounted_42, eX1_isCounted_42N, eX1_isCounted_43, eX1_isCounted_44, eX1_isCounted_47, eX1_isCounted_48, eX1_isCounted_48N, eX1_isCounted_49, eX1_isCounted_52, eX1_isCounted_53, eX1_isCounted_53N, eX1_isCounted_54, eX1_isCounted_57, eX1_isCounted_58, eX1_isCounted_58N, eX1_isCounted_59, eX1_isCounted_59N, eX1_isCounted_60R, eX1_isCounted_60N, eX1_isCounted_63, eX1_isCounted_64, eX1_isCounted_67, eX1_isCounted_68, eX1_isCounted_71, eX1_isCounted_72, eX1_isCounted_73, eX1_isCounted_74, rx, rn, rc, rl, hx, hn, hc, hl, d1, d2, d3, d4, d5, d6, d7, d8, d9, d10, d11, d12, rd_n, upw_n, ite_le, n45, n54, true_or, or_true, false_or, or_false, false_and, and_false, kx_l, kx_r, go_s, gl_s, gi_s, gb_s2, gb_s3, gq_s, wt_nil, wt_int, wt_long, wt_ref, wt_null, nl_int, nl_long, nl_ref, nl_null, nl_none, rf_n, rf_s, rf_st, tl_s, tl_n, g0, gS, ex1, nb_b, nb_0, nb_1, nf_i, nf_l, nf_ra, nf_ro, nf_na, nf_no, nf_b0, nf_z0, t45_4, t45_5, true_and, and_true, List.set_cons_zero, List.set_cons_succ, List.length_cons, List.length_nil, rd_s, upw_s, ne_eq, not_false_eq_true, Nat.zero_add, Nat.add_zero]
      | split
      | with_reducible intro _
      | omega
  · repeat' first
      | with_reducible assumption
      | with_reducible refine And.intro ?_ ?_
      | with_reducible exact vpi6 (by assumption) (by assumption)
      | with_reducible exact vpi8 (by assumption) (by assumption)
      | with_reducible refine sX0_holds (by first | assumption | exact hgc _ _ (by assumption) | exact hgl _ _ (by assumption) | exact isR.ext (by assumption) (by assumption)) ?_
      | with_reducible refine sX0_holdsAsSmall (by first | assumption | exact hgc _ _ (by assumption) | exact hgl _ _ (by assumption) | exact isR.ext (by assumption) (by assumption)) ?_
      | with_reducible refine sX0_isSettled (by first | assumption | exact hgc _ _ (by assumption) | exact hgl _ _ (by assumption) | exact isR.ext (by assumption) (by assumption)) ?_
      | with_reducible refine sX0_fitsSmall (by first | assumption | exact hgc _ _ (by assumption) | exact hgl _ _ (by assumption) | exact isR.ext (by assumption) (by assumption)) ?_
      | with_reducible refine sX1_firstPlaceOf (by first | assumption | exact CC.ext (by assumption) (by assumption)) (by first | assumption | exact hgc _ _ (by assumption) | exact hgl _ _ (by assumption) | exact isR.ext (by assumption) (by assumption)) ?_
      | with_reducible refine go_R (by first | assumption | exact hgc _ _ (by assumption) | exact hgl _ _ (by assumption) | exact isR.ext (by assumption) (by assumption)) ?_
      | with_reducible exact hQ _
      | with_reducible exact hQt
      | with_reducible exact hQf
      | simp only [eX1_isCounted_0, eX1_isCounted_2_0, eX1_isCounted_2_1, eX1_isCounted_2_2, eX1_isCounted_2_3, eX1_isCounted_2_4, eX1_isCounted_2_d6, eX1_isCounted_2_d7, eX1_isCounted_36, eX1_isCounted_36N, eX1_isCounted_37, eX1_isCounted_38, eX1_isCounted_41, eX1_isCounted_42, eX1_isCounted_42N, eX1_isCounted_43, eX1_isCounted_44, eX1_isCounted_47, eX1_isCounted_48, eX1_isCounted_48N, eX1_isCounted_49, eX1_isCounted_52, eX1_isCounted_53, eX1_isCounted_53N, eX1_isCounted_54, eX1_isCounted_57, eX1_isCounted_58, eX1_isCounted_58N, eX1_isCounted_59, eX1_isCounted_59N, eX1_isCounted_60R, eX1_isCounted_60N, eX1_isCounted_63, eX1_isCounted_64, eX1_isCounted_67, eX1_isCounted_68, eX1_isCounted_71, eX1_isCounted_72, eX1_isCounted_73, eX1_isCounted_74, rx, rn, rc, rl, hx, hn, hc, hl, d1, d2, d3, d4, d5, d6, d7, d8, d9, d10, d11, d12, rd_n, upw_n, ite_le, n45, n54, true_or, or_true, false_or, or_false, false_and, and_false, kx_l, kx_r, go_s, gl_s, gi_s, gb_s2, gb_s3, gq_s, wt_nil, wt_int, wt_long, wt_ref, wt_null, nl_int, nl_long, nl_ref, nl_null, nl_none, rf_n, rf_s, rf_st, tl_s, tl_n, g0, gS, ex1, nb_b, nb_0, nb_1, nf_i, nf_l, nf_ra, nf_ro, nf_na, nf_no, nf_b0, nf_z0, t45_4, t45_5, true_and, and_true, List.set_cons_zero, List.set_cons_succ, List.length_cons, List.length_nil, rd_s, upw_s, ne_eq, not_false_eq_true, Nat.zero_add, Nat.add_zero]
      | split
      | with_reducible intro _
      | omega
  · repeat' first
      | with_reducible assumption
      | with_reducible refine And.intro ?_ ?_
      | with_reducible exact vpi6 (by assumption) (by assumption)
      | with_reducible exact vpi8 (by assumption) (by assumption)
      | with_reducible refine sX0_holds (by first | assumption | exact hgc _ _ (by assumption) | exact hgl _ _ (by assumption) | exact isR.ext (by assumption) (by assumption)) ?_
      | with_reducible refine sX0_holdsAsSmall (by first | assumption | exact hgc _ _ (by assumption) | exact hgl _ _ (by assumption) | exact isR.ext (by assumption) (by assumption)) ?_
      | with_reducible refine sX0_isSettled (by first | assumption | exact hgc _ _ (by assumption) | exact hgl _ _ (by assumption) | exact isR.ext (by assumption) (by assumption)) ?_
      | with_reducible refine sX0_fitsSmall (by first | assumption | exact hgc _ _ (by assumption) | exact hgl _ _ (by assumption) | exact isR.ext (by assumption) (by assumption)) ?_
      | with_reducible refine sX1_firstPlaceOf (by first | assumption | exact CC.ext (by assumption) (by assumption)) (by first | assumption | exact hgc _ _ (by assumption) | exact hgl _ _ (by assumption) | exact isR.ext (by assumption) (by assumption)) ?_
      | with_reducible refine go_R (by first | assumption | exact hgc _ _ (by assumption) | exact hgl _ _ (by assumption) | exact isR.ext (by assumption) (by assumption)) ?_
      | with_reducible exact hQ _
      | with_reducible exact hQt
      | with_reducible exact hQf
      | simp only [eX1_isCounted_0, eX1_isCounted_2_0, eX1_isCounted_2_1, eX1_isCounted_2_2, eX1_isCounted_2_3, eX1_isCounted_2_4, eX1_isCounted_2_d6, eX1_isCounted_2_d7, eX1_isCounted_36, eX1_isCounted_36N, eX1_isCounted_37, eX1_isCounted_38, eX1_isCounted_41, eX1_isCounted_42, eX1_isCounted_42N, eX1_isCounted_43, eX1_isCounted_44, eX1_isCounted_47, eX1_isCounted_48, eX1_isCounted_48N, eX1_isCounted_49, eX1_isCounted_52, eX1_isCounted_53, eX1_isCounted_53N, eX1_isCounted_54, eX1_isCounted_57, eX1_isCounted_58, eX1_isCounted_58N, eX1_isCounted_59, eX1_isCounted_59N, eX1_isCounted_60R, eX1_isCounted_60N, eX1_isCounted_63, eX1_isCounted_64, eX1_isCounted_67, eX1_isCounted_68, eX1_isCounted_71, eX1_isCounted_72, eX1_isCounted_73, eX1_isCounted_74, rx, rn, rc, rl, hx, hn, hc, hl, d1, d2, d3, d4, d5, d6, d7, d8, d9, d10, d11, d12, rd_n, upw_n, ite_le, n45, n54, true_or, or_true, false_or, or_false, false_and, and_false, kx_l, kx_r, go_s, gl_s, gi_s, gb_s2, gb_s3, gq_s, wt_nil, wt_int, wt_long, wt_ref, wt_null, nl_int, nl_long, nl_ref, nl_null, nl_none, rf_n, rf_s, rf_st, tl_s, tl_n, g0, gS, ex1, nb_b, nb_0, nb_1, nf_i, nf_l, nf_ra, nf_ro, nf_na, nf_no, nf_b0, nf_z0, t45_4, t45_5, true_and, and_true, List.set_cons_zero, List.set_cons_succ, List.length_cons, List.length_nil, rd_s, upw_s, ne_eq, not_false_eq_true, Nat.zero_add, Nat.add_zero]
      | split
      | with_reducible intro _
      | omega
  · repeat' first
      | with_reducible assumption
      | with_reducible refine And.intro ?_ ?_
      | with_reducible exact vpi6 (by assumption) (by assumption)
      | with_reducible exact vpi8 (by assumption) (by assumption)
      | with_reducible refine sX0_holds (by first | assumption | exact hgc _ _ (by assumption) | exact hgl _ _ (by assumption) | exact isR.ext (by assumption) (by assumption)) ?_
      | with_reducible refine sX0_holdsAsSmall (by first | assumption | exact hgc _ _ (by assumption) | exact hgl _ _ (by assumption) | exact isR.ext (by assumption) (by assumption)) ?_
      | with_reducible refine sX0_isSettled (by first | assumption | exact hgc _ _ (by assumption) | exact hgl _ _ (by assumption) | exact isR.ext (by assumption) (by assumption)) ?_
      | with_reducible refine sX0_fitsSmall (by first | assumption | exact hgc _ _ (by assumption) | exact hgl _ _ (by assumption) | exact isR.ext (by assumption) (by assumption)) ?_
      | with_reducible refine sX1_firstPlaceOf (by first | assumption | exact CC.ext (by assumption) (by assumption)) (by first | assumption | exact hgc _ _ (by assumption) | exact hgl _ _ (by assumption) | exact isR.ext (by assumption) (by assumption)) ?_
      | with_reducible refine go_R (by first | assumption | exact hgc _ _ (by assumption) | exact hgl _ _ (by assumption) | exact isR.ext (by assumption) (by assumption)) ?_
      | with_reducible exact hQ _
      | with_reducible exact hQt
      | with_reducible exact hQf
      | simp only [eX1_isCounted_0, eX1_isCounted_2_0, eX1_isCounted_2_1, eX1_isCounted_2_2, eX1_isCounted_2_3, eX1_isCounted_2_4, eX1_isCounted_2_d6, eX1_isCounted_2_d7, eX1_isCounted_36, eX1_isCounted_36N, eX1_isCounted_37, eX1_isCounted_38, eX1_isCounted_41, eX1_isCounted_42, eX1_isCounted_42N, eX1_isCounted_43, eX1_isCounted_44, eX1_isCounted_47, eX1_isCounted_48, eX1_isCounted_48N, eX1_isCounted_49, eX1_isCounted_52, eX1_isCounted_53, eX1_isCounted_53N, eX1_isCounted_54, eX1_isCounted_57, eX1_isCounted_58, eX1_isCounted_58N, eX1_isCounted_59, eX1_isCounted_59N, eX1_isCounted_60R, eX1_isCounted_60N, eX1_isCounted_63, eX1_isCounted_64, eX1_isCounted_67, eX1_isCounted_68, eX1_isCounted_71, eX1_isCounted_72, eX1_isCounted_73, eX1_isCounted_74, rx, rn, rc, rl, hx, hn, hc, hl, d1, d2, d3, d4, d5, d6, d7, d8, d9, d10, d11, d12, rd_n, upw_n, eX1_isCounted_2_d hsw, ite_le, n45, n54, true_or, or_true, false_or, or_false, false_and, and_false, kx_l, kx_r, go_s, gl_s, gi_s, gb_s2, gb_s3, gq_s, wt_nil, wt_int, wt_long, wt_ref, wt_null, nl_int, nl_long, nl_ref, nl_null, nl_none, rf_n, rf_s, rf_st, tl_s, tl_n, g0, gS, ex1, nb_b, nb_0, nb_1, nf_i, nf_l, nf_ra, nf_ro, nf_na, nf_no, nf_b0, nf_z0, t45_4, t45_5, true_and, and_true, List.set_cons_zero, List.set_cons_succ, List.length_cons, List.length_nil, rd_s, upw_s, ne_eq, not_false_eq_true, Nat.zero_add, Nat.add_zero]
      | split
      | with_reducible intro _
      | omega
set_option maxHeartbeats 4000000 in
theorem lX1_pileCount_6 {a0 : Int64} {a1 : Int32} (hC : CC g w0 x nA cA lA kn w) (hQ : ∀ v : Int32, Q (.inl (some (.int v))) w) : ∀ (n rf md : Int32) (f : Nat → Int64) (gc gl : Nat → Option Nat), RO5 g w x nA cA lA n rf kn md f gc gl → ∀ (d : Nat) (i4 : Int32) (i5 : Int32) (i6 : Option Value) (k m : Nat), ¬ i5 < 0 → (n : Int32).toInt - i5.toInt ≤ (d : Int) → k ≤ 0 → m ≤ 0 → WP (MX1_pileCount g) Q (6, [some (.ref x), some (.long a0), none, some (.int a1), some (.int i4), some (.int i5), i6], [], w, k, m) := by
  rintro n rf md f gc gl ⟨hx, hn, hc, hl, hgc, hgl, hn0, hn1, rx, rn, rc, rl, ⟨d1, d2, d3, d4, d5, d6⟩, ⟨d7, d8, d9, d10, d11, d12⟩⟩ d
  induction d with
  | zero =>
    intro i4 i5 i6 k m z0 hm hk hs
    rw [eX1_pileCount_6]
    repeat' first
      | with_reducible assumption
      | with_reducible refine And.intro ?_ ?_
      | with_reducible exact vpi6 (by assumption) (by assumption)
      | with_reducible exact vpi8 (by assumption) (by assumption)
      | with_reducible exact (ic_z (by assumption) (by assumption)).elim
      | with_reducible exact vpi12 (by assumption) (by assumption) (by assumption)
      | with_reducible refine sX1_isCounted (by first | assumption | exact CC.ext (by assumption) (by assumption)) (by first | assumption | exact hgc _ _ (by assumption) | exact hgl _ _ (by assumption) | exact isR.ext (by assumption) (by assumption)) ?_
      | with_reducible refine sX1_asNumber ?_
      | with_reducible refine go_R (by first | assumption | exact hgc _ _ (by assumption) | exact hgl _ _ (by assumption) | exact isR.ext (by assumption) (by assumption)) ?_
      | with_reducible exact hQ _
      | simp only [eX1_pileCount_0, eX1_pileCount_1, eX1_pileCount_3, eX1_pileCount_4, eX1_pileCount_8, eX1_pileCount_8N, eX1_pileCount_9, eX1_pileCount_12, eX1_pileCount_15, eX1_pileCount_15N, eX1_pileCount_16, eX1_pileCount_19, eX1_pileCount_21, eX1_pileCount_22, eX1_pileCount_22N, eX1_pileCount_24, eX1_pileCount_24N, eX1_pileCount_26R, eX1_pileCount_26N, eX1_pileCount_29, eX1_pileCount_31, eX1_pileCount_31N, eX1_pileCount_32, eX1_pileCount_32N, eX1_pileCount_34, eX1_pileCount_36, eX1_pileCount_37, eX1_pileCount_38R, eX1_pileCount_38N, eX1_pileCount_41, eX1_pileCount_44, eX1_pileCount_45, eX1_pileCount_47, eX1_pileCount_50, eX1_pileCount_53, eX1_pileCount_55, rx, rn, rc, rl, hx, hn, hc, hl, d1, d2, d3, d4, d5, d6, d7, d8, d9, d10, d11, d12, rd_n, upw_n, ite_le, n45, n54, true_or, or_true, false_or, or_false, false_and, and_false, kx_l, kx_r, go_s, gl_s, gi_s, gb_s2, gb_s3, gq_s, wt_nil, wt_int, wt_long, wt_ref, wt_null, nl_int, nl_long, nl_ref, nl_null, nl_none, rf_n, rf_s, rf_st, tl_s, tl_n, g0, gS, ex1, nb_b, nb_0, nb_1, nf_i, nf_l, nf_ra, nf_ro, nf_na, nf_no, nf_b0, nf_z0, t45_4, t45_5, true_and, and_true, List.set_cons_zero, List.set_cons_succ, List.length_cons, List.length_nil, rd_s, upw_s, ne_eq, not_false_eq_true, Nat.zero_add, Nat.add_zero]
      | split
      | with_reducible intro _
      | omega
  | succ d ih =>
    intro i4 i5 i6 k m z0 hm hk hs
    rw [eX1_pileCount_6]
    repeat' first
      | with_reducible assumption
      | with_reducible refine And.intro ?_ ?_
      | with_reducible exact vpi6 (by assumption) (by assumption)
      | with_reducible exact vpi8 (by assumption) (by assumption)
      | with_reducible exact ih _ _ _ _ _ (ic_p (by assumption) (by assumption)) (ic_s (by assumption) (by assumption)) (by first | assumption | omega) (by first | assumption | omega)
      | with_reducible exact vpi12 (by assumption) (by assumption) (by assumption)
      | with_reducible refine sX1_isCounted (by first | assumption | exact CC.ext (by assumption) (by assumption)) (by first | assumption | exact hgc _ _ (by assumption) | exact hgl _ _ (by assumption) | exact isR.ext (by assumption) (by assumption)) ?_
      | with_reducible refine sX1_asNumber ?_
      | with_reducible refine go_R (by first | assumption | exact hgc _ _ (by assumption) | exact hgl _ _ (by assumption) | exact isR.ext (by assumption) (by assumption)) ?_
      | with_reducible exact hQ _
      | simp only [eX1_pileCount_0, eX1_pileCount_1, eX1_pileCount_3, eX1_pileCount_4, eX1_pileCount_8, eX1_pileCount_8N, eX1_pileCount_9, eX1_pileCount_12, eX1_pileCount_15, eX1_pileCount_15N, eX1_pileCount_16, eX1_pileCount_19, eX1_pileCount_21, eX1_pileCount_22, eX1_pileCount_22N, eX1_pileCount_24, eX1_pileCount_24N, eX1_pileCount_26R, eX1_pileCount_26N, eX1_pileCount_29, eX1_pileCount_31, eX1_pileCount_31N, eX1_pileCount_32, eX1_pileCount_32N, eX1_pileCount_34, eX1_pileCount_36, eX1_pileCount_37, eX1_pileCount_38R, eX1_pileCount_38N, eX1_pileCount_41, eX1_pileCount_44, eX1_pileCount_45, eX1_pileCount_47, eX1_pileCount_50, eX1_pileCount_53, eX1_pileCount_55, rx, rn, rc, rl, hx, hn, hc, hl, d1, d2, d3, d4, d5, d6, d7, d8, d9, d10, d11, d12, rd_n, upw_n, ite_le, n45, n54, true_or, or_true, false_or, or_false, false_and, and_false, kx_l, kx_r, go_s, gl_s, gi_s, gb_s2, gb_s3, gq_s, wt_nil, wt_int, wt_long, wt_ref, wt_null, nl_int, nl_long, nl_ref, nl_null, nl_none, rf_n, rf_s, rf_st, tl_s, tl_n, g0, gS, ex1, nb_b, nb_0, nb_1, nf_i, nf_l, nf_ra, nf_ro, nf_na, nf_no, nf_b0, nf_z0, t45_4, t45_5, true_and, and_true, List.set_cons_zero, List.set_cons_succ, List.length_cons, List.length_nil, rd_s, upw_s, ne_eq, not_false_eq_true, Nat.zero_add, Nat.add_zero]
      | split
      | with_reducible intro _
      | omega
set_option maxHeartbeats 4000000 in
theorem sX1_pileCount {a0 : Int64} {a1 : Int32} (hC : CC g w0 x nA cA lA kn w) (hQ : ∀ v : Int32, Q (.inl (some (.int v))) w) : WP (MX1_pileCount g) Q (0, [some (.ref x), some (.long a0), none, some (.int a1), none, none, none], [], w, 0, 0) := by
  obtain ⟨n, rf, md, f, gc, gl, hx, hn, hc, hl, hgc, hgl, hn0, hn1, rx, rn, rc, rl, ⟨d1, d2, d3, d4, d5, d6⟩, ⟨d7, d8, d9, d10, d11, d12⟩⟩ := hC.1.opn g
  repeat' first
    | with_reducible assumption
    | with_reducible refine And.intro ?_ ?_
    | with_reducible exact vpi6 (by assumption) (by assumption)
    | with_reducible exact vpi8 (by assumption) (by assumption)
    | with_reducible exact lX1_pileCount_6 hC hQ _ _ _ _ _ _ ⟨hx, hn, hc, hl, hgc, hgl, hn0, hn1, rx, rn, rc, rl, ⟨d1, d2, d3, d4, d5, d6⟩, ⟨d7, d8, d9, d10, d11, d12⟩⟩ 70 _ _ _ _ _ (by first | decide | assumption) (by first | decide | exact n12 (by assumption) | exact n60 (by assumption)) (by first | decide | omega) (by first | decide | omega)
    | with_reducible refine sX1_isCounted (by first | assumption | exact CC.ext (by assumption) (by assumption)) (by first | assumption | exact hgc _ _ (by assumption) | exact hgl _ _ (by assumption) | exact isR.ext (by assumption) (by assumption)) ?_
    | with_reducible refine sX1_asNumber ?_
    | with_reducible refine go_R (by first | assumption | exact hgc _ _ (by assumption) | exact hgl _ _ (by assumption) | exact isR.ext (by assumption) (by assumption)) ?_
    | with_reducible exact hQ _
    | simp only [eX1_pileCount_0, eX1_pileCount_1, eX1_pileCount_3, eX1_pileCount_4, eX1_pileCount_8, eX1_pileCount_8N, eX1_pileCount_9, eX1_pileCount_12, eX1_pileCount_15, eX1_pileCount_15N, eX1_pileCount_16, eX1_pileCount_19, eX1_pileCount_21, eX1_pileCount_22, eX1_pileCount_22N, eX1_pileCount_24, eX1_pileCount_24N, eX1_pileCount_26R, eX1_pileCount_26N, eX1_pileCount_29, eX1_pileCount_31, eX1_pileCount_31N, eX1_pileCount_32, eX1_pileCount_32N, eX1_pileCount_34, eX1_pileCount_36, eX1_pileCount_37, eX1_pileCount_38R, eX1_pileCount_38N, eX1_pileCount_41, eX1_pileCount_44, eX1_pileCount_45, eX1_pileCount_47, eX1_pileCount_50, eX1_pileCount_53, eX1_pileCount_55, rx, rn, rc, rl, hx, hn, hc, hl, d1, d2, d3, d4, d5, d6, d7, d8, d9, d10, d11, d12, rd_n, upw_n, ite_le, n45, n54, true_or, or_true, false_or, or_false, false_and, and_false, kx_l, kx_r, go_s, gl_s, gi_s, gb_s2, gb_s3, gq_s, wt_nil, wt_int, wt_long, wt_ref, wt_null, nl_int, nl_long, nl_ref, nl_null, nl_none, rf_n, rf_s, rf_st, tl_s, tl_n, g0, gS, ex1, nb_b, nb_0, nb_1, nf_i, nf_l, nf_ra, nf_ro, nf_na, nf_no, nf_b0, nf_z0, t45_4, t45_5, true_and, and_true, List.set_cons_zero, List.set_cons_succ, List.length_cons, List.length_nil, rd_s, upw_s, ne_eq, not_false_eq_true, Nat.zero_add, Nat.add_zero]
    | split
    | with_reducible intro _
    | omega
set_option maxHeartbeats 4000000 in
theorem sX1_houseCount {a0 : Int32} (hC : CC g w0 x nA cA lA kn w) (hQ : ∀ v : Int32, Q (.inl (some (.int v))) w) : WP (MX1_houseCount g) Q (0, [some (.ref x), some (.int a0)], [], w, 0, 0) := by
  obtain ⟨n, rf, md, f, gc, gl, hx, hn, hc, hl, hgc, hgl, hn0, hn1, rx, rn, rc, rl, ⟨d1, d2, d3, d4, d5, d6⟩, ⟨d7, d8, d9, d10, d11, d12⟩⟩ := hC.1.opn g
  rcases sw03 a0 with rfl | rfl | rfl | rfl | hsw
  · repeat' first
      | with_reducible assumption
      | with_reducible refine And.intro ?_ ?_
      | with_reducible exact vpi6 (by assumption) (by assumption)
      | with_reducible exact vpi8 (by assumption) (by assumption)
      | with_reducible refine sX1_cardsWithRange (by first | assumption | exact CC.ext (by assumption) (by assumption)) ?_
      | with_reducible refine go_R (by first | assumption | exact hgc _ _ (by assumption) | exact hgl _ _ (by assumption) | exact isR.ext (by assumption) (by assumption)) ?_
      | with_reducible exact hQ _
      | simp only [eX1_houseCount_0, eX1_houseCount_1_0, eX1_houseCount_1_1, eX1_houseCount_1_2, eX1_houseCount_1_3, eX1_houseCount_1_d4, eX1_houseCount_1_d5, eX1_houseCount_32, eX1_houseCount_32N, eX1_houseCount_33, eX1_houseCount_36, eX1_houseCount_37, eX1_houseCount_37N, eX1_houseCount_38, eX1_houseCount_41, eX1_houseCount_42, eX1_houseCount_42N, eX1_houseCount_43, eX1_houseCount_46, eX1_houseCount_47, eX1_houseCount_47N, eX1_houseCount_48, eX1_houseCount_51, eX1_houseCount_52, eX1_houseCount_52N, eX1_houseCount_53, eX1_houseCount_56, rx, rn, rc, rl, hx, hn, hc, hl, d1, d2, d3, d4, d5, d6, d7, d8, d9, d10, d11, d12, rd_n, upw_n, ite_le, n45, n54, true_or, or_true, false_or, or_false, false_and, and_false, kx_l, kx_r, go_s, gl_s, gi_s, gb_s2, gb_s3, gq_s, wt_nil, wt_int, wt_long, wt_ref, wt_null, nl_int, nl_long, nl_ref, nl_null, nl_none, rf_n, rf_s, rf_st, tl_s, tl_n, g0, gS, ex1, nb_b, nb_0, nb_1, nf_i, nf_l, nf_ra, nf_ro, nf_na, nf_no, nf_b0, nf_z0, t45_4, t45_5, true_and, and_true, List.set_cons_zero, List.set_cons_succ, List.length_cons, List.length_nil, rd_s, upw_s, ne_eq, not_false_eq_true, Nat.zero_add, Nat.add_zero]
      | split
      | with_reducible intro _
      | omega
  · repeat' first
      | with_reducible assumption
      | with_reducible refine And.intro ?_ ?_
      | with_reducible exact vpi6 (by assumption) (by assumption)
      | with_reducible exact vpi8 (by assumption) (by assumption)
      | with_reducible refine sX1_cardsWithRange (by first | assumption | exact CC.ext (by assumption) (by assumption)) ?_
      | with_reducible refine go_R (by first | assumption | exact hgc _ _ (by assumption) | exact hgl _ _ (by assumption) | exact isR.ext (by assumption) (by assumption)) ?_
      | with_reducible exact hQ _
      | simp only [eX1_houseCount_0, eX1_houseCount_1_0, eX1_houseCount_1_1, eX1_houseCount_1_2, eX1_houseCount_1_3, eX1_houseCount_1_d4, eX1_houseCount_1_d5, eX1_houseCount_32, eX1_houseCount_32N, eX1_houseCount_33, eX1_houseCount_36, eX1_houseCount_37, eX1_houseCount_37N, eX1_houseCount_38, eX1_houseCount_41, eX1_houseCount_42, eX1_houseCount_42N, eX1_houseCount_43, eX1_houseCount_46, eX1_houseCount_47, eX1_houseCount_47N, eX1_houseCount_48, eX1_houseCount_51, eX1_houseCount_52, eX1_houseCount_52N, eX1_houseCount_53, eX1_houseCount_56, rx, rn, rc, rl, hx, hn, hc, hl, d1, d2, d3, d4, d5, d6, d7, d8, d9, d10, d11, d12, rd_n, upw_n, ite_le, n45, n54, true_or, or_true, false_or, or_false, false_and, and_false, kx_l, kx_r, go_s, gl_s, gi_s, gb_s2, gb_s3, gq_s, wt_nil, wt_int, wt_long, wt_ref, wt_null, nl_int, nl_long, nl_ref, nl_null, nl_none, rf_n, rf_s, rf_st, tl_s, tl_n, g0, gS, ex1, nb_b, nb_0, nb_1, nf_i, nf_l, nf_ra, nf_ro, nf_na, nf_no, nf_b0, nf_z0, t45_4, t45_5, true_and, and_true, List.set_cons_zero, List.set_cons_succ, List.length_cons, List.length_nil, rd_s, upw_s, ne_eq, not_false_eq_true, Nat.zero_add, Nat.add_zero]
      | split
      | with_reducible intro _
      | omega
  · repeat' first
      | with_reducible assumption
      | with_reducible refine And.intro ?_ ?_
      | with_reducible exact vpi6 (by assumption) (by assumption)
      | with_reducible exact vpi8 (by assumption) (by assumption)
      | with_reducible refine sX1_cardsWithRange (by first | assumption | exact CC.ext (by assumption) (by assumption)) ?_
      | with_reducible refine go_R (by first | assumption | exact hgc _ _ (by assumption) | exact hgl _ _ (by assumption) | exact isR.ext (by assumption) (by assumption)) ?_
      | with_reducible exact hQ _
      | simp only [eX1_houseCount_0, eX1_houseCount_1_0, eX1_houseCount_1_1, eX1_houseCount_1_2, eX1_houseCount_1_3, eX1_houseCount_1_d4, eX1_houseCount_1_d5, eX1_houseCount_32, eX1_houseCount_32N, eX1_houseCount_33, eX1_houseCount_36, eX1_houseCount_37, eX1_houseCount_37N, eX1_houseCount_38, eX1_houseCount_41, eX1_houseCount_42, eX1_houseCount_42N, eX1_houseCount_43, eX1_houseCount_46, eX1_houseCount_47, eX1_houseCount_47N, eX1_houseCount_48, eX1_houseCount_51, eX1_houseCount_52, eX1_houseCount_52N, eX1_houseCount_53, eX1_houseCount_56, rx, rn, rc, rl, hx, hn, hc, hl, d1, d2, d3, d4, d5, d6, d7, d8, d9, d10, d11, d12, rd_n, upw_n, ite_le, n45, n54, true_or, or_true, false_or, or_false, false_and, and_false, kx_l, kx_r, go_s, gl_s, gi_s, gb_s2, gb_s3, gq_s, wt_nil, wt_int, wt_long, wt_ref, wt_null, nl_int, nl_long, nl_ref, nl_null, nl_none, rf_n, rf_s, rf_st, tl_s, tl_n, g0, gS, ex1, nb_b, nb_0, nb_1, nf_i, nf_l, nf_ra, nf_ro, nf_na, nf_no, nf_b0, nf_z0, t45_4, t45_5, true_and, and_true, List.set_cons_zero, List.set_cons_succ, List.length_cons, List.length_nil, rd_s, upw_s, ne_eq, not_false_eq_true, Nat.zero_add, Nat.add_zero]
      | split
      | with_reducible intro _
      | omega
  · repeat' first
      | with_reducible assumption
      | with_reducible refine And.intro ?_ ?_
      | with_reducible exact vpi6 (by assumption) (by assumption)
      | with_reducible exact vpi8 (by assumption) (by assumption)
      | with_reducible refine sX1_cardsWithRange (by first | assumption | exact CC.ext (by assumption) (by assumption)) ?_
      | with_reducible refine go_R (by first | assumption | exact hgc _ _ (by assumption) | exact hgl _ _ (by assumption) | exact isR.ext (by assumption) (by assumption)) ?_
      | with_reducible exact hQ _
      | simp only [eX1_houseCount_0, eX1_houseCount_1_0, eX1_houseCount_1_1, eX1_houseCount_1_2, eX1_houseCount_1_3, eX1_houseCount_1_d4, eX1_houseCount_1_d5, eX1_houseCount_32, eX1_houseCount_32N, eX1_houseCount_33, eX1_houseCount_36, eX1_houseCount_37, eX1_houseCount_37N, eX1_houseCount_38, eX1_houseCount_41, eX1_houseCount_42, eX1_houseCount_42N, eX1_houseCount_43, eX1_houseCount_46, eX1_houseCount_47, eX1_houseCount_47N, eX1_houseCount_48, eX1_houseCount_51, eX1_houseCount_52, eX1_houseCount_52N, eX1_houseCount_53, eX1_houseCount_56, rx, rn, rc, rl, hx, hn, hc, hl, d1, d2, d3, d4, d5, d6, d7, d8, d9, d10, d11, d12, rd_n, upw_n, ite_le, n45, n54, true_or, or_true, false_or, or_false, false_and, and_false, kx_l, kx_r, go_s, gl_s, gi_s, gb_s2, gb_s3, gq_s, wt_nil, wt_int, wt_long, wt_ref, wt_null, nl_int, nl_long, nl_ref, nl_null, nl_none, rf_n, rf_s, rf_st, tl_s, tl_n, g0, gS, ex1, nb_b, nb_0, nb_1, nf_i, nf_l, nf_ra, nf_ro, nf_na, nf_no, nf_b0, nf_z0, t45_4, t45_5, true_and, and_true, List.set_cons_zero, List.set_cons_succ, List.length_cons, List.length_nil, rd_s, upw_s, ne_eq, not_false_eq_true, Nat.zero_add, Nat.add_zero]
      | split
      | with_reducible intro _
      | omega
  · repeat' first
      | with_reducible assumption
      | with_reducible refine And.intro ?_ ?_
      | with_reducible exact vpi6 (by assumption) (by assumption)
      | with_reducible exact vpi8 (by assumption) (by assumption)
      | with_reducible refine sX1_cardsWithRange (by first | assumption | exact CC.ext (by assumption) (by assumption)) ?_
      | with_reducible refine go_R (by first | assumption | exact hgc _ _ (by assumption) | exact hgl _ _ (by assumption) | exact isR.ext (by assumption) (by assumption)) ?_
      | with_reducible exact hQ _
      | simp only [eX1_houseCount_0, eX1_houseCount_1_0, eX1_houseCount_1_1, eX1_houseCount_1_2, eX1_houseCount_1_3, eX1_houseCount_1_d4, eX1_houseCount_1_d5, eX1_houseCount_32, eX1_houseCount_32N, eX1_houseCount_33, eX1_houseCount_36, eX1_houseCount_37, eX1_houseCount_37N, eX1_houseCount_38, eX1_houseCount_41, eX1_houseCount_42, eX1_houseCount_42N, eX1_houseCount_43, eX1_houseCount_46, eX1_houseCount_47, eX1_houseCount_47N, eX1_houseCount_48, eX1_houseCount_51, eX1_houseCount_52, eX1_houseCount_52N, eX1_houseCount_53, eX1_houseCount_56, rx, rn, rc, rl, hx, hn, hc, hl, d1, d2, d3, d4, d5, d6, d7, d8, d9, d10, d11, d12, rd_n, upw_n, eX1_houseCount_1_d hsw, ite_le, n45, n54, true_or, or_true, false_or, or_false, false_and, and_false, kx_l, kx_r, go_s, gl_s, gi_s, gb_s2, gb_s3, gq_s, wt_nil, wt_int, wt_long, wt_ref, wt_null, nl_int, nl_long, nl_ref, nl_null, nl_none, rf_n, rf_s, rf_st, tl_s, tl_n, g0, gS, ex1, nb_b, nb_0, nb_1, nf_i, nf_l, nf_ra, nf_ro, nf_na, nf_no, nf_b0, nf_z0, t45_4, t45_5, true_and, and_true, List.set_cons_zero, List.set_cons_succ, List.length_cons, List.length_nil, rd_s, upw_s, ne_eq, not_false_eq_true, Nat.zero_add, Nat.add_zero]
      | split
      | with_reducible intro _
      | omega
end
end
/-! 67.22.class4.lean.txt -/
section
section
variable {g : RO} {Q : Ot → Hw → Prop} {w0 w : Hw} {x nA cA lA : Nat} {kn : Int32}
set_option maxHeartbeats 4000000 in
theorem sX1_isOuterSound {a0 : Nat} (h0 : isR w a0) (hQ : ∀ v : Bool, Q (.inl (some (.int (bI v)))) w) : WP (MX1_isOuterSound g) Q (0, [some (.ref a0)], [], w, 0, 0) := by
  have hQt : Q (.inl (some (.int 1))) w := hQ true
  have hQf : Q (.inl (some (.int 0))) w := hQ false
  repeat' first
    | with_reducible assumption
    | with_reducible refine And.intro ?_ ?_
    | with_reducible exact vpi6 (by assumption) (by assumption)
    | with_reducible exact vpi8 (by assumption) (by assumption)
    | with_reducible refine sX0_holds (by first | assumption | exact hgc _ _ (by assumption) | exact hgl _ _ (by assumption) | exact isR.ext (by assumption) (by assumption)) ?_
    | with_reducible refine go_R (by assumption) ?_
    | with_reducible exact hQ _
    | with_reducible exact hQt
    | with_reducible exact hQf
    | simp only [eX1_isOuterSound_0, eX1_isOuterSound_0N, eX1_isOuterSound_1, eX1_isOuterSound_4, eX1_isOuterSound_7, eX1_isOuterSound_8, eX1_isOuterSound_11, eX1_isOuterSound_11N, eX1_isOuterSound_12, eX1_isOuterSound_12N, eX1_isOuterSound_13, eX1_isOuterSound_16, eX1_isOuterSound_17, eX1_isOuterSound_18, eX1_isOuterSound_21, eX1_isOuterSound_24, eX1_isOuterSound_24N, eX1_isOuterSound_25, eX1_isOuterSound_28, eX1_isOuterSound_31, eX1_isOuterSound_32, eX1_isOuterSound_35, eX1_isOuterSound_35N, eX1_isOuterSound_36, eX1_isOuterSound_36N, eX1_isOuterSound_37, eX1_isOuterSound_40, eX1_isOuterSound_41, eX1_isOuterSound_42, eX1_isOuterSound_45, eX1_isOuterSound_48, eX1_isOuterSound_49, eX1_isOuterSound_52, eX1_isOuterSound_53, ite_le, n45, n54, true_or, or_true, false_or, or_false, false_and, and_false, kx_l, kx_r, go_s, gl_s, gi_s, gb_s2, gb_s3, gq_s, wt_nil, wt_int, wt_long, wt_ref, wt_null, nl_int, nl_long, nl_ref, nl_null, nl_none, rf_n, rf_s, rf_st, tl_s, tl_n, g0, gS, ex1, nb_b, nb_0, nb_1, nf_i, nf_l, nf_ra, nf_ro, nf_na, nf_no, nf_b0, nf_z0, t45_4, t45_5, true_and, and_true, List.set_cons_zero, List.set_cons_succ, List.length_cons, List.length_nil, rd_s, upw_s, ne_eq, not_false_eq_true, Nat.zero_add, Nat.add_zero]
    | split
    | with_reducible intro _
    | omega
set_option maxHeartbeats 4000000 in
theorem lX1_isEachEndHeld_2 {a0 : Nat} (h0 : isR w a0) (hQ : ∀ v : Bool, Q (.inl (some (.int (bI v)))) w) : ∀ (d : Nat) (i1 : Int32) (i2 : Option Value) (i3 : Option Value) (k m : Nat), ¬ i1 < 0 → (4 : Int32).toInt - i1.toInt ≤ (d : Int) → k ≤ 0 → m ≤ 0 → WP (MX1_isEachEndHeld g) Q (2, [some (.ref a0), some (.int i1), i2, i3], [], w, k, m) := by
  intro d
  have hQt : Q (.inl (some (.int 1))) w := hQ true
  have hQf : Q (.inl (some (.int 0))) w := hQ false
  induction d with
  | zero =>
    intro i1 i2 i3 k m z0 hm hk hs
    rw [eX1_isEachEndHeld_2]
    repeat' first
      | with_reducible assumption
      | with_reducible refine And.intro ?_ ?_
      | with_reducible exact vpi6 (by assumption) (by assumption)
      | with_reducible exact vpi8 (by assumption) (by assumption)
      | with_reducible exact (ic_z (by assumption) (by assumption)).elim
      | with_reducible exact vpi12 (by assumption) (by assumption) (by assumption)
      | with_reducible refine sX0_endAt (by first | assumption | exact hgc _ _ (by assumption) | exact hgl _ _ (by assumption) | exact isR.ext (by assumption) (by assumption)) ?_
      | with_reducible refine sX0_holds (by first | assumption | exact hgc _ _ (by assumption) | exact hgl _ _ (by assumption) | exact isR.ext (by assumption) (by assumption)) ?_
      | with_reducible refine sX0_holdsAsSmall (by first | assumption | exact hgc _ _ (by assumption) | exact hgl _ _ (by assumption) | exact isR.ext (by assumption) (by assumption)) ?_
      | with_reducible refine sX0_fitsSmall (by first | assumption | exact hgc _ _ (by assumption) | exact hgl _ _ (by assumption) | exact isR.ext (by assumption) (by assumption)) ?_
      | with_reducible refine go_R (by assumption) ?_
      | with_reducible exact hQ _
      | with_reducible exact hQt
      | with_reducible exact hQf
      | simp only [eX1_isEachEndHeld_0, eX1_isEachEndHeld_1, eX1_isEachEndHeld_3, eX1_isEachEndHeld_4, eX1_isEachEndHeld_7, eX1_isEachEndHeld_7N, eX1_isEachEndHeld_8, eX1_isEachEndHeld_9, eX1_isEachEndHeld_12, eX1_isEachEndHeld_13, eX1_isEachEndHeld_13N, eX1_isEachEndHeld_14, eX1_isEachEndHeld_15, eX1_isEachEndHeld_18, eX1_isEachEndHeld_21, eX1_isEachEndHeld_21N, eX1_isEachEndHeld_22, eX1_isEachEndHeld_23, eX1_isEachEndHeld_26, eX1_isEachEndHeld_26N, eX1_isEachEndHeld_27, eX1_isEachEndHeld_30, eX1_isEachEndHeld_33, eX1_isEachEndHeld_34, eX1_isEachEndHeld_35, eX1_isEachEndHeld_38, eX1_isEachEndHeld_41, eX1_isEachEndHeld_42, ite_le, n45, n54, true_or, or_true, false_or, or_false, false_and, and_false, kx_l, kx_r, go_s, gl_s, gi_s, gb_s2, gb_s3, gq_s, wt_nil, wt_int, wt_long, wt_ref, wt_null, nl_int, nl_long, nl_ref, nl_null, nl_none, rf_n, rf_s, rf_st, tl_s, tl_n, g0, gS, ex1, nb_b, nb_0, nb_1, nf_i, nf_l, nf_ra, nf_ro, nf_na, nf_no, nf_b0, nf_z0, t45_4, t45_5, true_and, and_true, List.set_cons_zero, List.set_cons_succ, List.length_cons, List.length_nil, rd_s, upw_s, ne_eq, not_false_eq_true, Nat.zero_add, Nat.add_zero]
      | split
      | with_reducible intro _
      | omega
  | succ d ih =>
    intro i1 i2 i3 k m z0 hm hk hs
    rw [eX1_isEachEndHeld_2]
    repeat' first
      | with_reducible assumption
      | with_reducible refine And.intro ?_ ?_
      | with_reducible exact vpi6 (by assumption) (by assumption)
      | with_reducible exact vpi8 (by assumption) (by assumption)
      | with_reducible exact ih _ _ _ _ _ (ic_p (by assumption) (by assumption)) (ic_s (by assumption) (by assumption)) (by first | assumption | omega) (by first | assumption | omega)
      | with_reducible exact vpi12 (by assumption) (by assumption) (by assumption)
      | with_reducible refine sX0_endAt (by first | assumption | exact hgc _ _ (by assumption) | exact hgl _ _ (by assumption) | exact isR.ext (by assumption) (by assumption)) ?_
      | with_reducible refine sX0_holds (by first | assumption | exact hgc _ _ (by assumption) | exact hgl _ _ (by assumption) | exact isR.ext (by assumption) (by assumption)) ?_
      | with_reducible refine sX0_holdsAsSmall (by first | assumption | exact hgc _ _ (by assumption) | exact hgl _ _ (by assumption) | exact isR.ext (by assumption) (by assumption)) ?_
      | with_reducible refine sX0_fitsSmall (by first | assumption | exact hgc _ _ (by assumption) | exact hgl _ _ (by assumption) | exact isR.ext (by assumption) (by assumption)) ?_
      | with_reducible refine go_R (by assumption) ?_
      | with_reducible exact hQ _
      | with_reducible exact hQt
      | with_reducible exact hQf
      | simp only [eX1_isEachEndHeld_0, eX1_isEachEndHeld_1, eX1_isEachEndHeld_3, eX1_isEachEndHeld_4, eX1_isEachEndHeld_7, eX1_isEachEndHeld_7N, eX1_isEachEndHeld_8, eX1_isEachEndHeld_9, eX1_isEachEndHeld_12, eX1_isEachEndHeld_13, eX1_isEachEndHeld_13N, eX1_isEachEndHeld_14, eX1_isEachEndHeld_15, eX1_isEachEndHeld_18, eX1_isEachEndHeld_21, eX1_isEachEndHeld_21N, eX1_isEachEndHeld_22, eX1_isEachEndHeld_23, eX1_isEachEndHeld_26, eX1_isEachEndHeld_26N, eX1_isEachEndHeld_27, eX1_isEachEndHeld_30, eX1_isEachEndHeld_33, eX1_isEachEndHeld_34, eX1_isEachEndHeld_35, eX1_isEachEndHeld_38, eX1_isEachEndHeld_41, eX1_isEachEndHeld_42, ite_le, n45, n54, true_or, or_true, false_or, or_false, false_and, and_false, kx_l, kx_r, go_s, gl_s, gi_s, gb_s2, gb_s3, gq_s, wt_nil, wt_int, wt_long, wt_ref, wt_null, nl_int, nl_long, nl_ref, nl_null, nl_none, rf_n, rf_s, rf_st, tl_s, tl_n, g0, gS, ex1, nb_b, nb_0, nb_1, nf_i, nf_l, nf_ra, nf_ro, nf_na, nf_no, nf_b0, nf_z0, t45_4, t45_5, true_and, and_true, List.set_cons_zero, List.set_cons_succ, List.length_cons, List.length_nil, rd_s, upw_s, ne_eq, not_false_eq_true, Nat.zero_add, Nat.add_zero]
      | split
      | with_reducible intro _
      | omega
set_option maxHeartbeats 4000000 in
theorem sX1_isEachEndHeld {a0 : Nat} (h0 : isR w a0) (hQ : ∀ v : Bool, Q (.inl (some (.int (bI v)))) w) : WP (MX1_isEachEndHeld g) Q (0, [some (.ref a0), none, none, none], [], w, 0, 0) := by
  have hQt : Q (.inl (some (.int 1))) w := hQ true
  have hQf : Q (.inl (some (.int 0))) w := hQ false
  repeat' first
    | with_reducible assumption
    | with_reducible refine And.intro ?_ ?_
    | with_reducible exact vpi6 (by assumption) (by assumption)
    | with_reducible exact vpi8 (by assumption) (by assumption)
    | with_reducible exact lX1_isEachEndHeld_2 h0 hQ 70 _ _ _ _ _ (by first | decide | assumption) (by first | decide | exact n12 (by assumption) | exact n60 (by assumption)) (by first | decide | omega) (by first | decide | omega)
    | with_reducible refine sX0_endAt (by first | assumption | exact hgc _ _ (by assumption) | exact hgl _ _ (by assumption) | exact isR.ext (by assumption) (by assumption)) ?_
    | with_reducible refine sX0_holds (by first | assumption | exact hgc _ _ (by assumption) | exact hgl _ _ (by assumption) | exact isR.ext (by assumption) (by assumption)) ?_
    | with_reducible refine sX0_holdsAsSmall (by first | assumption | exact hgc _ _ (by assumption) | exact hgl _ _ (by assumption) | exact isR.ext (by assumption) (by assumption)) ?_
    | with_reducible refine sX0_fitsSmall (by first | assumption | exact hgc _ _ (by assumption) | exact hgl _ _ (by assumption) | exact isR.ext (by assumption) (by assumption)) ?_
    | with_reducible refine go_R (by assumption) ?_
    | with_reducible exact hQ _
    | with_reducible exact hQt
    | with_reducible exact hQf
    | simp only [eX1_isEachEndHeld_0, eX1_isEachEndHeld_1, eX1_isEachEndHeld_3, eX1_isEachEndHeld_4, eX1_isEachEndHeld_7, eX1_isEachEndHeld_7N, eX1_isEachEndHeld_8, eX1_isEachEndHeld_9, eX1_isEachEndHeld_12, eX1_isEachEndHeld_13, eX1_isEachEndHeld_13N, eX1_isEachEndHeld_14, eX1_isEachEndHeld_15, eX1_isEachEndHeld_18, eX1_isEachEndHeld_21, eX1_isEachEndHeld_21N, eX1_isEachEndHeld_22, eX1_isEachEndHeld_23, eX1_isEachEndHeld_26, eX1_isEachEndHeld_26N, eX1_isEachEndHeld_27, eX1_isEachEndHeld_30, eX1_isEachEndHeld_33, eX1_isEachEndHeld_34, eX1_isEachEndHeld_35, eX1_isEachEndHeld_38, eX1_isEachEndHeld_41, eX1_isEachEndHeld_42, ite_le, n45, n54, true_or, or_true, false_or, or_false, false_and, and_false, kx_l, kx_r, go_s, gl_s, gi_s, gb_s2, gb_s3, gq_s, wt_nil, wt_int, wt_long, wt_ref, wt_null, nl_int, nl_long, nl_ref, nl_null, nl_none, rf_n, rf_s, rf_st, tl_s, tl_n, g0, gS, ex1, nb_b, nb_0, nb_1, nf_i, nf_l, nf_ra, nf_ro, nf_na, nf_no, nf_b0, nf_z0, t45_4, t45_5, true_and, and_true, List.set_cons_zero, List.set_cons_succ, List.length_cons, List.length_nil, rd_s, upw_s, ne_eq, not_false_eq_true, Nat.zero_add, Nat.add_zero]
    | split
    | with_reducible intro _
    | omega
set_option maxHeartbeats 4000000 in
theorem lX1_hasSameValid_8R {a0 : Nat} {a1 : Nat} (hC : CC g w0 x nA cA lA kn w) (h0 : isR w a0) (h1 : isR w a1) (hQ : ∀ v : Bool, Q (.inl (some (.int (bI v)))) w) : ∀ (n rf md : Int32) (f : Nat → Int64) (gc gl : Nat → Option Nat), RO5 g w x nA cA lA n rf kn md f gc gl → ∀ (d : Nat) (i3 : Int32) (k m : Nat), ¬ i3 < 0 → (8 : Int32).toInt - i3.toInt ≤ (d : Int) → k ≤ 0 → m ≤ 0 → WP (MX1_hasSameValid g) Q (8, [some (.ref x), some (.ref a0), some (.ref a1), some (.int i3)], [], w, k, m) := by
  rintro n rf md f gc gl ⟨hx, hn, hc, hl, hgc, hgl, hn0, hn1, rx, rn, rc, rl, ⟨d1, d2, d3, d4, d5, d6⟩, ⟨d7, d8, d9, d10, d11, d12⟩⟩ d
  have hQt : Q (.inl (some (.int 1))) w := hQ true
  have hQf : Q (.inl (some (.int 0))) w := hQ false
  induction d with
  | zero =>
    intro i3 k m z0 hm hk hs
    rw [eX1_hasSameValid_8]
    repeat' first
      | with_reducible assumption
      | with_reducible refine And.intro ?_ ?_
      | with_reducible exact vpi6 (by assumption) (by assumption)
      | with_reducible exact vpi8 (by assumption) (by assumption)
      | with_reducible exact (ic_z (by assumption) (by assumption)).elim
      | with_reducible exact vpi12 (by assumption) (by assumption) (by assumption)
      | with_reducible refine sX0_holds (by first | assumption | exact hgc _ _ (by assumption) | exact hgl _ _ (by assumption) | exact isR.ext (by assumption) (by assumption)) ?_
      | with_reducible refine go_R (by first | assumption | exact hgc _ _ (by assumption) | exact hgl _ _ (by assumption) | exact isR.ext (by assumption) (by assumption)) ?_
      | with_reducible exact hQ _
      | with_reducible exact hQt
      | with_reducible exact hQf
      | simp only [eX1_hasSameValid_0, eX1_hasSameValid_0N, eX1_hasSameValid_1R, eX1_hasSameValid_1N, eX1_hasSameValid_4, eX1_hasSameValid_5, eX1_hasSameValid_6, eX1_hasSameValid_7, eX1_hasSameValid_9, eX1_hasSameValid_11, eX1_hasSameValid_14, eX1_hasSameValid_14N, eX1_hasSameValid_15, eX1_hasSameValid_15N, eX1_hasSameValid_16, eX1_hasSameValid_19, eX1_hasSameValid_20, eX1_hasSameValid_21, eX1_hasSameValid_24, eX1_hasSameValid_24N, eX1_hasSameValid_25, eX1_hasSameValid_25N, eX1_hasSameValid_26, eX1_hasSameValid_29, eX1_hasSameValid_30, eX1_hasSameValid_31, eX1_hasSameValid_34, eX1_hasSameValid_37, eX1_hasSameValid_38, eX1_hasSameValid_39, eX1_hasSameValid_42, eX1_hasSameValid_45, eX1_hasSameValid_46, rx, rn, rc, rl, hx, hn, hc, hl, d1, d2, d3, d4, d5, d6, d7, d8, d9, d10, d11, d12, rd_n, upw_n, ite_le, n45, n54, true_or, or_true, false_or, or_false, false_and, and_false, kx_l, kx_r, go_s, gl_s, gi_s, gb_s2, gb_s3, gq_s, wt_nil, wt_int, wt_long, wt_ref, wt_null, nl_int, nl_long, nl_ref, nl_null, nl_none, rf_n, rf_s, rf_st, tl_s, tl_n, g0, gS, ex1, nb_b, nb_0, nb_1, nf_i, nf_l, nf_ra, nf_ro, nf_na, nf_no, nf_b0, nf_z0, t45_4, t45_5, true_and, and_true, List.set_cons_zero, List.set_cons_succ, List.length_cons, List.length_nil, rd_s, upw_s, ne_eq, not_false_eq_true, Nat.zero_add, Nat.add_zero]
      | split
      | with_reducible intro _
      | omega
  | succ d ih =>
    intro i3 k m z0 hm hk hs
    rw [eX1_hasSameValid_8]
    repeat' first
      | with_reducible assumption
      | with_reducible refine And.intro ?_ ?_
      | with_reducible exact vpi6 (by assumption) (by assumption)
      | with_reducible exact vpi8 (by assumption) (by assumption)
      | with_reducible exact ih _ _ _ (ic_p (by assumption) (by assumption)) (ic_s (by assumption) (by assumption)) (by first | assumption | omega) (by first | assumption | omega)
      | with_reducible exact vpi12 (by assumption) (by assumption) (by assumption)
      | with_reducible refine sX0_holds (by first | assumption | exact hgc _ _ (by assumption) | exact hgl _ _ (by assumption) | exact isR.ext (by assumption) (by assumption)) ?_
      | with_reducible refine go_R (by first | assumption | exact hgc _ _ (by assumption) | exact hgl _ _ (by assumption) | exact isR.ext (by assumption) (by assumption)) ?_
      | with_reducible exact hQ _
      | with_reducible exact hQt
      | with_reducible exact hQf
      | simp only [eX1_hasSameValid_0, eX1_hasSameValid_0N, eX1_hasSameValid_1R, eX1_hasSameValid_1N, eX1_hasSameValid_4, eX1_hasSameValid_5, eX1_hasSameValid_6, eX1_hasSameValid_7, eX1_hasSameValid_9, eX1_hasSameValid_11, eX1_hasSameValid_14, eX1_hasSameValid_14N, eX1_hasSameValid_15, eX1_hasSameValid_15N, eX1_hasSameValid_16, eX1_hasSameValid_19, eX1_hasSameValid_20, eX1_hasSameValid_21, eX1_hasSameValid_24, eX1_hasSameValid_24N, eX1_hasSameValid_25, eX1_hasSameValid_25N, eX1_hasSameValid_26, eX1_hasSameValid_29, eX1_hasSameValid_30, eX1_hasSameValid_31, eX1_hasSameValid_34, eX1_hasSameValid_37, eX1_hasSameValid_38, eX1_hasSameValid_39, eX1_hasSameValid_42, eX1_hasSameValid_45, eX1_hasSameValid_46, rx, rn, rc, rl, hx, hn, hc, hl, d1, d2, d3, d4, d5, d6, d7, d8, d9, d10, d11, d12, rd_n, upw_n, ite_le, n45, n54, true_or, or_true, false_or, or_false, false_and, and_false, kx_l, kx_r, go_s, gl_s, gi_s, gb_s2, gb_s3, gq_s, wt_nil, wt_int, wt_long, wt_ref, wt_null, nl_int, nl_long, nl_ref, nl_null, nl_none, rf_n, rf_s, rf_st, tl_s, tl_n, g0, gS, ex1, nb_b, nb_0, nb_1, nf_i, nf_l, nf_ra, nf_ro, nf_na, nf_no, nf_b0, nf_z0, t45_4, t45_5, true_and, and_true, List.set_cons_zero, List.set_cons_succ, List.length_cons, List.length_nil, rd_s, upw_s, ne_eq, not_false_eq_true, Nat.zero_add, Nat.add_zero]
      | split
      | with_reducible intro _
      | omega
set_option maxHeartbeats 4000000 in
theorem sX1_hasSameValidR {a0 : Nat} {a1 : Nat} (hC : CC g w0 x nA cA lA kn w) (h0 : isR w a0) (h1 : isR w a1) (hQ : ∀ v : Bool, Q (.inl (some (.int (bI v)))) w) : WP (MX1_hasSameValid g) Q (0, [some (.ref x), some (.ref a0), some (.ref a1), none], [], w, 0, 0) := by
  obtain ⟨n, rf, md, f, gc, gl, hx, hn, hc, hl, hgc, hgl, hn0, hn1, rx, rn, rc, rl, ⟨d1, d2, d3, d4, d5, d6⟩, ⟨d7, d8, d9, d10, d11, d12⟩⟩ := hC.1.opn g
  have hQt : Q (.inl (some (.int 1))) w := hQ true
  have hQf : Q (.inl (some (.int 0))) w := hQ false
  repeat' first
    | with_reducible assumption
    | with_reducible refine And.intro ?_ ?_
    | with_reducible exact vpi6 (by assumption) (by assumption)
    | with_reducible exact vpi8 (by assumption) (by assumption)
    | with_reducible exact lX1_hasSameValid_8R hC h0 h1 hQ _ _ _ _ _ _ ⟨hx, hn, hc, hl, hgc, hgl, hn0, hn1, rx, rn, rc, rl, ⟨d1, d2, d3, d4, d5, d6⟩, ⟨d7, d8, d9, d10, d11, d12⟩⟩ 70 _ _ _ (by first | decide | assumption) (by first | decide | exact n12 (by assumption) | exact n60 (by assumption)) (by first | decide | omega) (by first | decide | omega)
    | with_reducible refine sX0_holds (by first | assumption | exact hgc _ _ (by assumption) | exact hgl _ _ (by assumption) | exact isR.ext (by assumption) (by assumption)) ?_
    | with_reducible refine go_R (by first | assumption | exact hgc _ _ (by assumption) | exact hgl _ _ (by assumption) | exact isR.ext (by assumption) (by assumption)) ?_
    | with_reducible exact hQ _
    | with_reducible exact hQt
    | with_reducible exact hQf
    | simp only [eX1_hasSameValid_0, eX1_hasSameValid_0N, eX1_hasSameValid_1R, eX1_hasSameValid_1N, eX1_hasSameValid_4, eX1_hasSameValid_5, eX1_hasSameValid_6, eX1_hasSameValid_7, eX1_hasSameValid_9, eX1_hasSameValid_11, eX1_hasSameValid_14, eX1_hasSameValid_14N, eX1_hasSameValid_15, eX1_hasSameValid_15N, eX1_hasSameValid_16, eX1_hasSameValid_19, eX1_hasSameValid_20, eX1_hasSameValid_21, eX1_hasSameValid_24, eX1_hasSameValid_24N, eX1_hasSameValid_25, eX1_hasSameValid_25N, eX1_hasSameValid_26, eX1_hasSameValid_29, eX1_hasSameValid_30, eX1_hasSameValid_31, eX1_hasSameValid_34, eX1_hasSameValid_37, eX1_hasSameValid_38, eX1_hasSameValid_39, eX1_hasSameValid_42, eX1_hasSameValid_45, eX1_hasSameValid_46, rx, rn, rc, rl, hx, hn, hc, hl, d1, d2, d3, d4, d5, d6, d7, d8, d9, d10, d11, d12, rd_n, upw_n, ite_le, n45, n54, true_or, or_true, false_or, or_false, false_and, and_false, kx_l, kx_r, go_s, gl_s, gi_s, gb_s2, gb_s3, gq_s, wt_nil, wt_int, wt_long, wt_ref, wt_null, nl_int, nl_long, nl_ref, nl_null, nl_none, rf_n, rf_s, rf_st, tl_s, tl_n, g0, gS, ex1, nb_b, nb_0, nb_1, nf_i, nf_l, nf_ra, nf_ro, nf_na, nf_no, nf_b0, nf_z0, t45_4, t45_5, true_and, and_true, List.set_cons_zero, List.set_cons_succ, List.length_cons, List.length_nil, rd_s, upw_s, ne_eq, not_false_eq_true, Nat.zero_add, Nat.add_zero]
    | split
    | with_reducible intro _
    | omega
set_option maxHeartbeats 4000000 in
theorem sX1_hasSameValidN {a1 : Nat} (hC : CC g w0 x nA cA lA kn w) (h1 : isR w a1) (hQ : ∀ v : Bool, Q (.inl (some (.int (bI v)))) w) : WP (MX1_hasSameValid g) Q (0, [some (.ref x), some .null, some (.ref a1), none], [], w, 0, 0) := by
  obtain ⟨n, rf, md, f, gc, gl, hx, hn, hc, hl, hgc, hgl, hn0, hn1, rx, rn, rc, rl, ⟨d1, d2, d3, d4, d5, d6⟩, ⟨d7, d8, d9, d10, d11, d12⟩⟩ := hC.1.opn g
  have hQt : Q (.inl (some (.int 1))) w := hQ true
  have hQf : Q (.inl (some (.int 0))) w := hQ false
  repeat' first
    | with_reducible assumption
    | with_reducible refine And.intro ?_ ?_
    | with_reducible exact vpi6 (by assumption) (by assumption)
    | with_reducible exact vpi8 (by assumption) (by assumption)
    | with_reducible refine sX0_holds (by first | assumption | exact hgc _ _ (by assumption) | exact hgl _ _ (by assumption) | exact isR.ext (by assumption) (by assumption)) ?_
    | with_reducible refine go_R (by first | assumption | exact hgc _ _ (by assumption) | exact hgl _ _ (by assumption) | exact isR.ext (by assumption) (by assumption)) ?_
    | with_reducible exact hQ _
    | with_reducible exact hQt
    | with_reducible exact hQf
    | simp only [eX1_hasSameValid_0, eX1_hasSameValid_0N, eX1_hasSameValid_1R, eX1_hasSameValid_1N, eX1_hasSameValid_4, eX1_hasSameValid_5, eX1_hasSameValid_6, eX1_hasSameValid_7, eX1_hasSameValid_9, eX1_hasSameValid_11, eX1_hasSameValid_14, eX1_hasSameValid_14N, eX1_hasSameValid_15, eX1_hasSameValid_15N, eX1_hasSameValid_16, eX1_hasSameValid_19, eX1_hasSameValid_20, eX1_hasSameValid_21, eX1_hasSameValid_24, eX1_hasSameValid_24N, eX1_hasSameValid_25, eX1_hasSameValid_25N, eX1_hasSameValid_26, eX1_hasSameValid_29, eX1_hasSameValid_30, eX1_hasSameValid_31, eX1_hasSameValid_34, eX1_hasSameValid_37, eX1_hasSameValid_38, eX1_hasSameValid_39, eX1_hasSameValid_42, eX1_hasSameValid_45, eX1_hasSameValid_46, rx, rn, rc, rl, hx, hn, hc, hl, d1, d2, d3, d4, d5, d6, d7, d8, d9, d10, d11, d12, rd_n, upw_n, ite_le, n45, n54, true_or, or_true, false_or, or_false, false_and, and_false, kx_l, kx_r, go_s, gl_s, gi_s, gb_s2, gb_s3, gq_s, wt_nil, wt_int, wt_long, wt_ref, wt_null, nl_int, nl_long, nl_ref, nl_null, nl_none, rf_n, rf_s, rf_st, tl_s, tl_n, g0, gS, ex1, nb_b, nb_0, nb_1, nf_i, nf_l, nf_ra, nf_ro, nf_na, nf_no, nf_b0, nf_z0, t45_4, t45_5, true_and, and_true, List.set_cons_zero, List.set_cons_succ, List.length_cons, List.length_nil, rd_s, upw_s, ne_eq, not_false_eq_true, Nat.zero_add, Nat.add_zero]
    | split
    | with_reducible intro _
    | omega
set_option maxHeartbeats 4000000 in
theorem lX1_isSameToAndFro_2 {a0 : Nat} (hC : CC g w0 x nA cA lA kn w) (h0 : isR w a0) (hQ : ∀ v : Bool, Q (.inl (some (.int (bI v)))) w) : ∀ (n rf md : Int32) (f : Nat → Int64) (gc gl : Nat → Option Nat), RO5 g w x nA cA lA n rf kn md f gc gl → ∀ (d : Nat) (i2 : Int32) (i3 : Option Value) (k m : Nat), ¬ i2 < 0 → (6 : Int32).toInt - i2.toInt ≤ (d : Int) → k ≤ 0 → m ≤ 0 → WP (MX1_isSameToAndFro g) Q (2, [some (.ref x), some (.ref a0), some (.int i2), i3], [], w, k, m) := by
  rintro n rf md f gc gl ⟨hx, hn, hc, hl, hgc, hgl, hn0, hn1, rx, rn, rc, rl, ⟨d1, d2, d3, d4, d5, d6⟩, ⟨d7, d8, d9, d10, d11, d12⟩⟩ d
  have hQt : Q (.inl (some (.int 1))) w := hQ true
  have hQf : Q (.inl (some (.int 0))) w := hQ false
  induction d with
  | zero =>
    intro i2 i3 k m z0 hm hk hs
    rw [eX1_isSameToAndFro_2]
    repeat' first
      | with_reducible assumption
      | with_reducible refine And.intro ?_ ?_
      | with_reducible exact vpi6 (by assumption) (by assumption)
      | with_reducible exact vpi8 (by assumption) (by assumption)
      | with_reducible exact (ic_z (by assumption) (by assumption)).elim
      | with_reducible exact vpi12 (by assumption) (by assumption) (by assumption)
      | with_reducible refine sX0_matchesR (by first | assumption | exact hgc _ _ (by assumption) | exact hgl _ _ (by assumption) | exact isR.ext (by assumption) (by assumption)) (by first | assumption | exact hgc _ _ (by assumption) | exact hgl _ _ (by assumption) | exact isR.ext (by assumption) (by assumption)) ?_
      | with_reducible refine sX0_matchesN (by first | assumption | exact hgc _ _ (by assumption) | exact hgl _ _ (by assumption) | exact isR.ext (by assumption) (by assumption)) ?_
      | with_reducible refine go_R (by first | assumption | exact hgc _ _ (by assumption) | exact hgl _ _ (by assumption) | exact isR.ext (by assumption) (by assumption)) ?_
      | with_reducible exact hQ _
      | with_reducible exact hQt
      | with_reducible exact hQf
      | simp only [eX1_isSameToAndFro_0, eX1_isSameToAndFro_1, eX1_isSameToAndFro_3, eX1_isSameToAndFro_5, eX1_isSameToAndFro_8, eX1_isSameToAndFro_8N, eX1_isSameToAndFro_9, eX1_isSameToAndFro_12, eX1_isSameToAndFro_13, eX1_isSameToAndFro_14, eX1_isSameToAndFro_14N, eX1_isSameToAndFro_15, eX1_isSameToAndFro_15N, eX1_isSameToAndFro_16R, eX1_isSameToAndFro_16N, eX1_isSameToAndFro_19, eX1_isSameToAndFro_19N, eX1_isSameToAndFro_20, eX1_isSameToAndFro_20N, eX1_isSameToAndFro_21R, eX1_isSameToAndFro_21N, eX1_isSameToAndFro_24, eX1_isSameToAndFro_24N, eX1_isSameToAndFro_25, eX1_isSameToAndFro_25N, eX1_isSameToAndFro_26R, eX1_isSameToAndFro_26N, eX1_isSameToAndFro_29, eX1_isSameToAndFro_32, eX1_isSameToAndFro_33, eX1_isSameToAndFro_34, eX1_isSameToAndFro_37, eX1_isSameToAndFro_40, eX1_isSameToAndFro_41, rx, rn, rc, rl, hx, hn, hc, hl, d1, d2, d3, d4, d5, d6, d7, d8, d9, d10, d11, d12, rd_n, upw_n, ite_le, n45, n54, true_or, or_true, false_or, or_false, false_and, and_false, kx_l, kx_r, go_s, gl_s, gi_s, gb_s2, gb_s3, gq_s, wt_nil, wt_int, wt_long, wt_ref, wt_null, nl_int, nl_long, nl_ref, nl_null, nl_none, rf_n, rf_s, rf_st, tl_s, tl_n, g0, gS, ex1, nb_b, nb_0, nb_1, nf_i, nf_l, nf_ra, nf_ro, nf_na, nf_no, nf_b0, nf_z0, t45_4, t45_5, true_and, and_true, List.set_cons_zero, List.set_cons_succ, List.length_cons, List.length_nil, rd_s, upw_s, ne_eq, not_false_eq_true, Nat.zero_add, Nat.add_zero]
      | split
      | with_reducible intro _
      | omega
  | succ d ih =>
    intro i2 i3 k m z0 hm hk hs
    rw [eX1_isSameToAndFro_2]
    repeat' first
      | with_reducible assumption
      | with_reducible refine And.intro ?_ ?_
      | with_reducible exact vpi6 (by assumption) (by assumption)
      | with_reducible exact vpi8 (by assumption) (by assumption)
      | with_reducible exact ih _ _ _ _ (ic_p (by assumption) (by assumption)) (ic_s (by assumption) (by assumption)) (by first | assumption | omega) (by first | assumption | omega)
      | with_reducible exact vpi12 (by assumption) (by assumption) (by assumption)
      | with_reducible refine sX0_matchesR (by first | assumption | exact hgc _ _ (by assumption) | exact hgl _ _ (by assumption) | exact isR.ext (by assumption) (by assumption)) (by first | assumption | exact hgc _ _ (by assumption) | exact hgl _ _ (by assumption) | exact isR.ext (by assumption) (by assumption)) ?_
      | with_reducible refine sX0_matchesN (by first | assumption | exact hgc _ _ (by assumption) | exact hgl _ _ (by assumption) | exact isR.ext (by assumption) (by assumption)) ?_
      | with_reducible refine go_R (by first | assumption | exact hgc _ _ (by assumption) | exact hgl _ _ (by assumption) | exact isR.ext (by assumption) (by assumption)) ?_
      | with_reducible exact hQ _
      | with_reducible exact hQt
      | with_reducible exact hQf
      | simp only [eX1_isSameToAndFro_0, eX1_isSameToAndFro_1, eX1_isSameToAndFro_3, eX1_isSameToAndFro_5, eX1_isSameToAndFro_8, eX1_isSameToAndFro_8N, eX1_isSameToAndFro_9, eX1_isSameToAndFro_12, eX1_isSameToAndFro_13, eX1_isSameToAndFro_14, eX1_isSameToAndFro_14N, eX1_isSameToAndFro_15, eX1_isSameToAndFro_15N, eX1_isSameToAndFro_16R, eX1_isSameToAndFro_16N, eX1_isSameToAndFro_19, eX1_isSameToAndFro_19N, eX1_isSameToAndFro_20, eX1_isSameToAndFro_20N, eX1_isSameToAndFro_21R, eX1_isSameToAndFro_21N, eX1_isSameToAndFro_24, eX1_isSameToAndFro_24N, eX1_isSameToAndFro_25, eX1_isSameToAndFro_25N, eX1_isSameToAndFro_26R, eX1_isSameToAndFro_26N, eX1_isSameToAndFro_29, eX1_isSameToAndFro_32, eX1_isSameToAndFro_33, eX1_isSameToAndFro_34, eX1_isSameToAndFro_37, eX1_isSameToAndFro_40, eX1_isSameToAndFro_41, rx, rn, rc, rl, hx, hn, hc, hl, d1, d2, d3, d4, d5, d6, d7, d8, d9, d10, d11, d12, rd_n, upw_n, ite_le, n45, n54, true_or, or_true, false_or, or_false, false_and, and_false, kx_l, kx_r, go_s, gl_s, gi_s, gb_s2, gb_s3, gq_s, wt_nil, wt_int, wt_long, wt_ref, wt_null, nl_int, nl_long, nl_ref, nl_null, nl_none, rf_n, rf_s, rf_st, tl_s, tl_n, g0, gS, ex1, nb_b, nb_0, nb_1, nf_i, nf_l, nf_ra, nf_ro, nf_na, nf_no, nf_b0, nf_z0, t45_4, t45_5, true_and, and_true, List.set_cons_zero, List.set_cons_succ, List.length_cons, List.length_nil, rd_s, upw_s, ne_eq, not_false_eq_true, Nat.zero_add, Nat.add_zero]
      | split
      | with_reducible intro _
      | omega
set_option maxHeartbeats 4000000 in
theorem sX1_isSameToAndFro {a0 : Nat} (hC : CC g w0 x nA cA lA kn w) (h0 : isR w a0) (hQ : ∀ v : Bool, Q (.inl (some (.int (bI v)))) w) : WP (MX1_isSameToAndFro g) Q (0, [some (.ref x), some (.ref a0), none, none], [], w, 0, 0) := by
  obtain ⟨n, rf, md, f, gc, gl, hx, hn, hc, hl, hgc, hgl, hn0, hn1, rx, rn, rc, rl, ⟨d1, d2, d3, d4, d5, d6⟩, ⟨d7, d8, d9, d10, d11, d12⟩⟩ := hC.1.opn g
  have hQt : Q (.inl (some (.int 1))) w := hQ true
  have hQf : Q (.inl (some (.int 0))) w := hQ false
  repeat' first
    | with_reducible assumption
    | with_reducible refine And.intro ?_ ?_
    | with_reducible exact vpi6 (by assumption) (by assumption)
    | with_reducible exact vpi8 (by assumption) (by assumption)
    | with_reducible exact lX1_isSameToAndFro_2 hC h0 hQ _ _ _ _ _ _ ⟨hx, hn, hc, hl, hgc, hgl, hn0, hn1, rx, rn, rc, rl, ⟨d1, d2, d3, d4, d5, d6⟩, ⟨d7, d8, d9, d10, d11, d12⟩⟩ 70 _ _ _ _ (by first | decide | assumption) (by first | decide | exact n12 (by assumption) | exact n60 (by assumption)) (by first | decide | omega) (by first | decide | omega)
    | with_reducible refine sX0_matchesR (by first | assumption | exact hgc _ _ (by assumption) | exact hgl _ _ (by assumption) | exact isR.ext (by assumption) (by assumption)) (by first | assumption | exact hgc _ _ (by assumption) | exact hgl _ _ (by assumption) | exact isR.ext (by assumption) (by assumption)) ?_
    | with_reducible refine sX0_matchesN (by first | assumption | exact hgc _ _ (by assumption) | exact hgl _ _ (by assumption) | exact isR.ext (by assumption) (by assumption)) ?_
    | with_reducible refine go_R (by first | assumption | exact hgc _ _ (by assumption) | exact hgl _ _ (by assumption) | exact isR.ext (by assumption) (by assumption)) ?_
    | with_reducible exact hQ _
    | with_reducible exact hQt
    | with_reducible exact hQf
    | simp only [eX1_isSameToAndFro_0, eX1_isSameToAndFro_1, eX1_isSameToAndFro_3, eX1_isSameToAndFro_5, eX1_isSameToAndFro_8, eX1_isSameToAndFro_8N, eX1_isSameToAndFro_9, eX1_isSameToAndFro_12, eX1_isSameToAndFro_13, eX1_isSameToAndFro_14, eX1_isSameToAndFro_14N, eX1_isSameToAndFro_15, eX1_isSameToAndFro_15N, eX1_isSameToAndFro_16R, eX1_isSameToAndFro_16N, eX1_isSameToAndFro_19, eX1_isSameToAndFro_19N, eX1_isSameToAndFro_20, eX1_isSameToAndFro_20N, eX1_isSameToAndFro_21R, eX1_isSameToAndFro_21N, eX1_isSameToAndFro_24, eX1_isSameToAndFro_24N, eX1_isSameToAndFro_25, eX1_isSameToAndFro_25N, eX1_isSameToAndFro_26R, eX1_isSameToAndFro_26N, eX1_isSameToAndFro_29, eX1_isSameToAndFro_32, eX1_isSameToAndFro_33, eX1_isSameToAndFro_34, eX1_isSameToAndFro_37, eX1_isSameToAndFro_40, eX1_isSameToAndFro_41, rx, rn, rc, rl, hx, hn, hc, hl, d1, d2, d3, d4, d5, d6, d7, d8, d9, d10, d11, d12, rd_n, upw_n, ite_le, n45, n54, true_or, or_true, false_or, or_false, false_and, and_false, kx_l, kx_r, go_s, gl_s, gi_s, gb_s2, gb_s3, gq_s, wt_nil, wt_int, wt_long, wt_ref, wt_null, nl_int, nl_long, nl_ref, nl_null, nl_none, rf_n, rf_s, rf_st, tl_s, tl_n, g0, gS, ex1, nb_b, nb_0, nb_1, nf_i, nf_l, nf_ra, nf_ro, nf_na, nf_no, nf_b0, nf_z0, t45_4, t45_5, true_and, and_true, List.set_cons_zero, List.set_cons_succ, List.length_cons, List.length_nil, rd_s, upw_s, ne_eq, not_false_eq_true, Nat.zero_add, Nat.add_zero]
    | split
    | with_reducible intro _
    | omega
set_option maxHeartbeats 4000000 in
theorem lX1_isEachFoundInPile_2  (hC : CC g w0 x nA cA lA kn w) (hQ : ∀ v : Bool, Q (.inl (some (.int (bI v)))) w) : ∀ (n rf md : Int32) (f : Nat → Int64) (gc gl : Nat → Option Nat), RO5 g w x nA cA lA n rf kn md f gc gl → ∀ (d : Nat) (i1 : Int32) (i2 : Option Value) (k m : Nat), ¬ i1 < 0 → (n : Int32).toInt - i1.toInt ≤ (d : Int) → k ≤ 0 → m ≤ 0 → WP (MX1_isEachFoundInPile g) Q (2, [some (.ref x), some (.int i1), i2], [], w, k, m) := by
  rintro n rf md f gc gl ⟨hx, hn, hc, hl, hgc, hgl, hn0, hn1, rx, rn, rc, rl, ⟨d1, d2, d3, d4, d5, d6⟩, ⟨d7, d8, d9, d10, d11, d12⟩⟩ d
  have hQt : Q (.inl (some (.int 1))) w := hQ true
  have hQf : Q (.inl (some (.int 0))) w := hQ false
  induction d with
  | zero =>
    intro i1 i2 k m z0 hm hk hs
    rw [eX1_isEachFoundInPile_2]
    repeat' first
      | with_reducible assumption
      | with_reducible refine And.intro ?_ ?_
      | with_reducible exact vpi6 (by assumption) (by assumption)
      | with_reducible exact vpi8 (by assumption) (by assumption)
      | with_reducible exact (ic_z (by assumption) (by assumption)).elim
      | with_reducible exact vpi12 (by assumption) (by assumption) (by assumption)
      | with_reducible refine sX1_firstPlaceOf (by first | assumption | exact CC.ext (by assumption) (by assumption)) (by first | assumption | exact hgc _ _ (by assumption) | exact hgl _ _ (by assumption) | exact isR.ext (by assumption) (by assumption)) ?_
      | with_reducible refine go_R (by first | assumption | exact hgc _ _ (by assumption) | exact hgl _ _ (by assumption) | exact isR.ext (by assumption) (by assumption)) ?_
      | with_reducible exact hQ _
      | with_reducible exact hQt
      | with_reducible exact hQf
      | simp only [eX1_isEachFoundInPile_0, eX1_isEachFoundInPile_1, eX1_isEachFoundInPile_3, eX1_isEachFoundInPile_3N, eX1_isEachFoundInPile_4, eX1_isEachFoundInPile_7, eX1_isEachFoundInPile_10, eX1_isEachFoundInPile_10N, eX1_isEachFoundInPile_11, eX1_isEachFoundInPile_14, eX1_isEachFoundInPile_15, eX1_isEachFoundInPile_16, eX1_isEachFoundInPile_16N, eX1_isEachFoundInPile_17, eX1_isEachFoundInPile_17N, eX1_isEachFoundInPile_18R, eX1_isEachFoundInPile_18N, eX1_isEachFoundInPile_21, eX1_isEachFoundInPile_21N, eX1_isEachFoundInPile_22, eX1_isEachFoundInPile_22N, eX1_isEachFoundInPile_23R, eX1_isEachFoundInPile_23N, eX1_isEachFoundInPile_26, eX1_isEachFoundInPile_27, eX1_isEachFoundInPile_30, eX1_isEachFoundInPile_31, eX1_isEachFoundInPile_32, eX1_isEachFoundInPile_35, eX1_isEachFoundInPile_38, eX1_isEachFoundInPile_39, rx, rn, rc, rl, hx, hn, hc, hl, d1, d2, d3, d4, d5, d6, d7, d8, d9, d10, d11, d12, rd_n, upw_n, ite_le, n45, n54, true_or, or_true, false_or, or_false, false_and, and_false, kx_l, kx_r, go_s, gl_s, gi_s, gb_s2, gb_s3, gq_s, wt_nil, wt_int, wt_long, wt_ref, wt_null, nl_int, nl_long, nl_ref, nl_null, nl_none, rf_n, rf_s, rf_st, tl_s, tl_n, g0, gS, ex1, nb_b, nb_0, nb_1, nf_i, nf_l, nf_ra, nf_ro, nf_na, nf_no, nf_b0, nf_z0, t45_4, t45_5, true_and, and_true, List.set_cons_zero, List.set_cons_succ, List.length_cons, List.length_nil, rd_s, upw_s, ne_eq, not_false_eq_true, Nat.zero_add, Nat.add_zero]
      | split
      | with_reducible intro _
      | omega
  | succ d ih =>
    intro i1 i2 k m z0 hm hk hs
    rw [eX1_isEachFoundInPile_2]
    repeat' first
      | with_reducible assumption
      | with_reducible refine And.intro ?_ ?_
      | with_reducible exact vpi6 (by assumption) (by assumption)
      | with_reducible exact vpi8 (by assumption) (by assumption)
      | with_reducible exact ih _ _ _ _ (ic_p (by assumption) (by assumption)) (ic_s (by assumption) (by assumption)) (by first | assumption | omega) (by first | assumption | omega)
      | with_reducible exact vpi12 (by assumption) (by assumption) (by assumption)
      | with_reducible refine sX1_firstPlaceOf (by first | assumption | exact CC.ext (by assumption) (by assumption)) (by first | assumption | exact hgc _ _ (by assumption) | exact hgl _ _ (by assumption) | exact isR.ext (by assumption) (by assumption)) ?_
      | with_reducible refine go_R (by first | assumption | exact hgc _ _ (by assumption) | exact hgl _ _ (by assumption) | exact isR.ext (by assumption) (by assumption)) ?_
      | with_reducible exact hQ _
      | with_reducible exact hQt
      | with_reducible exact hQf
      | simp only [eX1_isEachFoundInPile_0, eX1_isEachFoundInPile_1, eX1_isEachFoundInPile_3, eX1_isEachFoundInPile_3N, eX1_isEachFoundInPile_4, eX1_isEachFoundInPile_7, eX1_isEachFoundInPile_10, eX1_isEachFoundInPile_10N, eX1_isEachFoundInPile_11, eX1_isEachFoundInPile_14, eX1_isEachFoundInPile_15, eX1_isEachFoundInPile_16, eX1_isEachFoundInPile_16N, eX1_isEachFoundInPile_17, eX1_isEachFoundInPile_17N, eX1_isEachFoundInPile_18R, eX1_isEachFoundInPile_18N, eX1_isEachFoundInPile_21, eX1_isEachFoundInPile_21N, eX1_isEachFoundInPile_22, eX1_isEachFoundInPile_22N, eX1_isEachFoundInPile_23R, eX1_isEachFoundInPile_23N, eX1_isEachFoundInPile_26, eX1_isEachFoundInPile_27, eX1_isEachFoundInPile_30, eX1_isEachFoundInPile_31, eX1_isEachFoundInPile_32, eX1_isEachFoundInPile_35, eX1_isEachFoundInPile_38, eX1_isEachFoundInPile_39, rx, rn, rc, rl, hx, hn, hc, hl, d1, d2, d3, d4, d5, d6, d7, d8, d9, d10, d11, d12, rd_n, upw_n, ite_le, n45, n54, true_or, or_true, false_or, or_false, false_and, and_false, kx_l, kx_r, go_s, gl_s, gi_s, gb_s2, gb_s3, gq_s, wt_nil, wt_int, wt_long, wt_ref, wt_null, nl_int, nl_long, nl_ref, nl_null, nl_none, rf_n, rf_s, rf_st, tl_s, tl_n, g0, gS, ex1, nb_b, nb_0, nb_1, nf_i, nf_l, nf_ra, nf_ro, nf_na, nf_no, nf_b0, nf_z0, t45_4, t45_5, true_and, and_true, List.set_cons_zero, List.set_cons_succ, List.length_cons, List.length_nil, rd_s, upw_s, ne_eq, not_false_eq_true, Nat.zero_add, Nat.add_zero]
      | split
      | with_reducible intro _
      | omega
set_option maxHeartbeats 4000000 in
theorem sX1_isEachFoundInPile  (hC : CC g w0 x nA cA lA kn w) (hQ : ∀ v : Bool, Q (.inl (some (.int (bI v)))) w) : WP (MX1_isEachFoundInPile g) Q (0, [some (.ref x), none, none], [], w, 0, 0) := by
  obtain ⟨n, rf, md, f, gc, gl, hx, hn, hc, hl, hgc, hgl, hn0, hn1, rx, rn, rc, rl, ⟨d1, d2, d3, d4, d5, d6⟩, ⟨d7, d8, d9, d10, d11, d12⟩⟩ := hC.1.opn g
  have hQt : Q (.inl (some (.int 1))) w := hQ true
  have hQf : Q (.inl (some (.int 0))) w := hQ false
  repeat' first
    | with_reducible assumption
    | with_reducible refine And.intro ?_ ?_
    | with_reducible exact vpi6 (by assumption) (by assumption)
    | with_reducible exact vpi8 (by assumption) (by assumption)
    | with_reducible exact lX1_isEachFoundInPile_2 hC hQ _ _ _ _ _ _ ⟨hx, hn, hc, hl, hgc, hgl, hn0, hn1, rx, rn, rc, rl, ⟨d1, d2, d3, d4, d5, d6⟩, ⟨d7, d8, d9, d10, d11, d12⟩⟩ 70 _ _ _ _ (by first | decide | assumption) (by first | decide | exact n12 (by assumption) | exact n60 (by assumption)) (by first | decide | omega) (by first | decide | omega)
    | with_reducible refine sX1_firstPlaceOf (by first | assumption | exact CC.ext (by assumption) (by assumption)) (by first | assumption | exact hgc _ _ (by assumption) | exact hgl _ _ (by assumption) | exact isR.ext (by assumption) (by assumption)) ?_
    | with_reducible refine go_R (by first | assumption | exact hgc _ _ (by assumption) | exact hgl _ _ (by assumption) | exact isR.ext (by assumption) (by assumption)) ?_
    | with_reducible exact hQ _
    | with_reducible exact hQt
    | with_reducible exact hQf
    | simp only [eX1_isEachFoundInPile_0, eX1_isEachFoundInPile_1, eX1_isEachFoundInPile_3, eX1_isEachFoundInPile_3N, eX1_isEachFoundInPile_4, eX1_isEachFoundInPile_7, eX1_isEachFoundInPile_10, eX1_isEachFoundInPile_10N, eX1_isEachFoundInPile_11, eX1_isEachFoundInPile_14, eX1_isEachFoundInPile_15, eX1_isEachFoundInPile_16, eX1_isEachFoundInPile_16N, eX1_isEachFoundInPile_17, eX1_isEachFoundInPile_17N, eX1_isEachFoundInPile_18R, eX1_isEachFoundInPile_18N, eX1_isEachFoundInPile_21, eX1_isEachFoundInPile_21N, eX1_isEachFoundInPile_22, eX1_isEachFoundInPile_22N, eX1_isEachFoundInPile_23R, eX1_isEachFoundInPile_23N, eX1_isEachFoundInPile_26, eX1_isEachFoundInPile_27, eX1_isEachFoundInPile_30, eX1_isEachFoundInPile_31, eX1_isEachFoundInPile_32, eX1_isEachFoundInPile_35, eX1_isEachFoundInPile_38, eX1_isEachFoundInPile_39, rx, rn, rc, rl, hx, hn, hc, hl, d1, d2, d3, d4, d5, d6, d7, d8, d9, d10, d11, d12, rd_n, upw_n, ite_le, n45, n54, true_or, or_true, false_or, or_false, false_and, and_false, kx_l, kx_r, go_s, gl_s, gi_s, gb_s2, gb_s3, gq_s, wt_nil, wt_int, wt_long, wt_ref, wt_null, nl_int, nl_long, nl_ref, nl_null, nl_none, rf_n, rf_s, rf_st, tl_s, tl_n, g0, gS, ex1, nb_b, nb_0, nb_1, nf_i, nf_l, nf_ra, nf_ro, nf_na, nf_no, nf_b0, nf_z0, t45_4, t45_5, true_and, and_true, List.set_cons_zero, List.set_cons_succ, List.length_cons, List.length_nil, rd_s, upw_s, ne_eq, not_false_eq_true, Nat.zero_add, Nat.add_zero]
    | split
    | with_reducible intro _
    | omega
set_option maxHeartbeats 4000000 in
theorem sX1_with {a0 : Int64} {a1 : Int64} (hQ : ∀ v : Int64, Q (.inl (some (.long v))) w) : WP (MX1_with g) Q (0, [some (.long a0), none, some (.long a1), none], [], w, 0, 0) := by
  repeat' first
    | with_reducible assumption
    | with_reducible refine And.intro ?_ ?_
    | with_reducible exact vpi6 (by assumption) (by assumption)
    | with_reducible exact vpi8 (by assumption) (by assumption)
    | with_reducible refine go_R (by assumption) ?_
    | with_reducible exact hQ _
    | simp only [eX1_with_0, eX1_with_1, eX1_with_4, eX1_with_5, eX1_with_6, eX1_with_7, ite_le, n45, n54, true_or, or_true, false_or, or_false, false_and, and_false, kx_l, kx_r, go_s, gl_s, gi_s, gb_s2, gb_s3, gq_s, wt_nil, wt_int, wt_long, wt_ref, wt_null, nl_int, nl_long, nl_ref, nl_null, nl_none, rf_n, rf_s, rf_st, tl_s, tl_n, g0, gS, ex1, nb_b, nb_0, nb_1, nf_i, nf_l, nf_ra, nf_ro, nf_na, nf_no, nf_b0, nf_z0, t45_4, t45_5, true_and, and_true, List.set_cons_zero, List.set_cons_succ, List.length_cons, List.length_nil, rd_s, upw_s, ne_eq, not_false_eq_true, Nat.zero_add, Nat.add_zero]
    | split
    | with_reducible intro _
    | omega
end
end
/-! 67.22.class5.lean.txt -/
section
section
variable {g : RO} {Q : Ot → Hw → Prop} {w0 w : Hw} {x nA cA lA : Nat} {kn : Int32}
set_option maxHeartbeats 4000000 in
theorem lX1_withHouse_5 {a0 : Int64} (hC : CC g w0 x nA cA lA kn w) (hQ : ∀ v : Int64, Q (.inl (some (.long v))) w) : ∀ (n rf md : Int32) (f : Nat → Int64) (gc gl : Nat → Option Nat), RO5 g w x nA cA lA n rf kn md f gc gl → ∀ (d : Nat) (i3 : Int64) (i5 : Int32) (k m : Nat), ¬ i5 < 0 → (4 : Int32).toInt + 1 - i5.toInt ≤ (d : Int) → k ≤ 0 → m ≤ 0 → WP (MX1_withHouse g) Q (5, [some (.ref x), some (.long a0), none, some (.long i3), none, some (.int i5)], [], w, k, m) := by
  rintro n rf md f gc gl ⟨hx, hn, hc, hl, hgc, hgl, hn0, hn1, rx, rn, rc, rl, ⟨d1, d2, d3, d4, d5, d6⟩, ⟨d7, d8, d9, d10, d11, d12⟩⟩ d
  induction d with
  | zero =>
    intro i3 i5 k m z0 hm hk hs
    rw [eX1_withHouse_5]
    repeat' first
      | with_reducible assumption
      | with_reducible refine And.intro ?_ ?_
      | with_reducible exact vpi6 (by assumption) (by assumption)
      | with_reducible exact vpi8 (by assumption) (by assumption)
      | with_reducible exact (ic_zl (by assumption) (by assumption)).elim
      | with_reducible exact vpi12 (by assumption) (by assumption) (by assumption)
      | with_reducible refine sX1_houseCount (by first | assumption | exact CC.ext (by assumption) (by assumption)) ?_
      | with_reducible refine sX1_with ?_
      | with_reducible refine go_R (by first | assumption | exact hgc _ _ (by assumption) | exact hgl _ _ (by assumption) | exact isR.ext (by assumption) (by assumption)) ?_
      | with_reducible exact hQ _
      | simp only [eX1_withHouse_0, eX1_withHouse_1, eX1_withHouse_2, eX1_withHouse_3, eX1_withHouse_7, eX1_withHouse_8, eX1_withHouse_11, eX1_withHouse_12, eX1_withHouse_12N, eX1_withHouse_13, eX1_withHouse_15, eX1_withHouse_18, eX1_withHouse_19, eX1_withHouse_22, eX1_withHouse_23, eX1_withHouse_26, eX1_withHouse_29, eX1_withHouse_30, rx, rn, rc, rl, hx, hn, hc, hl, d1, d2, d3, d4, d5, d6, d7, d8, d9, d10, d11, d12, rd_n, upw_n, ite_le, n45, n54, true_or, or_true, false_or, or_false, false_and, and_false, kx_l, kx_r, go_s, gl_s, gi_s, gb_s2, gb_s3, gq_s, wt_nil, wt_int, wt_long, wt_ref, wt_null, nl_int, nl_long, nl_ref, nl_null, nl_none, rf_n, rf_s, rf_st, tl_s, tl_n, g0, gS, ex1, nb_b, nb_0, nb_1, nf_i, nf_l, nf_ra, nf_ro, nf_na, nf_no, nf_b0, nf_z0, t45_4, t45_5, true_and, and_true, List.set_cons_zero, List.set_cons_succ, List.length_cons, List.length_nil, rd_s, upw_s, ne_eq, not_false_eq_true, Nat.zero_add, Nat.add_zero]
      | split
      | with_reducible intro _
      | omega
  | succ d ih =>
    intro i3 i5 k m z0 hm hk hs
    rw [eX1_withHouse_5]
    repeat' first
      | with_reducible assumption
      | with_reducible refine And.intro ?_ ?_
      | with_reducible exact vpi6 (by assumption) (by assumption)
      | with_reducible exact vpi8 (by assumption) (by assumption)
      | with_reducible exact ih _ _ _ _ (ic_pl (by assumption) (by assumption) (by decide)) (ic_sl (by assumption) (by assumption) (by decide)) (by first | assumption | omega) (by first | assumption | omega)
      | with_reducible exact vpi12 (by assumption) (by assumption) (by assumption)
      | with_reducible refine sX1_houseCount (by first | assumption | exact CC.ext (by assumption) (by assumption)) ?_
      | with_reducible refine sX1_with ?_
      | with_reducible refine go_R (by first | assumption | exact hgc _ _ (by assumption) | exact hgl _ _ (by assumption) | exact isR.ext (by assumption) (by assumption)) ?_
      | with_reducible exact hQ _
      | simp only [eX1_withHouse_0, eX1_withHouse_1, eX1_withHouse_2, eX1_withHouse_3, eX1_withHouse_7, eX1_withHouse_8, eX1_withHouse_11, eX1_withHouse_12, eX1_withHouse_12N, eX1_withHouse_13, eX1_withHouse_15, eX1_withHouse_18, eX1_withHouse_19, eX1_withHouse_22, eX1_withHouse_23, eX1_withHouse_26, eX1_withHouse_29, eX1_withHouse_30, rx, rn, rc, rl, hx, hn, hc, hl, d1, d2, d3, d4, d5, d6, d7, d8, d9, d10, d11, d12, rd_n, upw_n, ite_le, n45, n54, true_or, or_true, false_or, or_false, false_and, and_false, kx_l, kx_r, go_s, gl_s, gi_s, gb_s2, gb_s3, gq_s, wt_nil, wt_int, wt_long, wt_ref, wt_null, nl_int, nl_long, nl_ref, nl_null, nl_none, rf_n, rf_s, rf_st, tl_s, tl_n, g0, gS, ex1, nb_b, nb_0, nb_1, nf_i, nf_l, nf_ra, nf_ro, nf_na, nf_no, nf_b0, nf_z0, t45_4, t45_5, true_and, and_true, List.set_cons_zero, List.set_cons_succ, List.length_cons, List.length_nil, rd_s, upw_s, ne_eq, not_false_eq_true, Nat.zero_add, Nat.add_zero]
      | split
      | with_reducible intro _
      | omega
set_option maxHeartbeats 4000000 in
theorem sX1_withHouse {a0 : Int64} (hC : CC g w0 x nA cA lA kn w) (hQ : ∀ v : Int64, Q (.inl (some (.long v))) w) : WP (MX1_withHouse g) Q (0, [some (.ref x), some (.long a0), none, none, none, none], [], w, 0, 0) := by
  obtain ⟨n, rf, md, f, gc, gl, hx, hn, hc, hl, hgc, hgl, hn0, hn1, rx, rn, rc, rl, ⟨d1, d2, d3, d4, d5, d6⟩, ⟨d7, d8, d9, d10, d11, d12⟩⟩ := hC.1.opn g
  repeat' first
    | with_reducible assumption
    | with_reducible refine And.intro ?_ ?_
    | with_reducible exact vpi6 (by assumption) (by assumption)
    | with_reducible exact vpi8 (by assumption) (by assumption)
    | with_reducible exact lX1_withHouse_5 hC hQ _ _ _ _ _ _ ⟨hx, hn, hc, hl, hgc, hgl, hn0, hn1, rx, rn, rc, rl, ⟨d1, d2, d3, d4, d5, d6⟩, ⟨d7, d8, d9, d10, d11, d12⟩⟩ 70 _ _ _ _ (by first | decide | assumption) (by first | decide | exact n12 (by assumption) | exact n60 (by assumption)) (by first | decide | omega) (by first | decide | omega)
    | with_reducible refine sX1_houseCount (by first | assumption | exact CC.ext (by assumption) (by assumption)) ?_
    | with_reducible refine sX1_with ?_
    | with_reducible refine go_R (by first | assumption | exact hgc _ _ (by assumption) | exact hgl _ _ (by assumption) | exact isR.ext (by assumption) (by assumption)) ?_
    | with_reducible exact hQ _
    | simp only [eX1_withHouse_0, eX1_withHouse_1, eX1_withHouse_2, eX1_withHouse_3, eX1_withHouse_7, eX1_withHouse_8, eX1_withHouse_11, eX1_withHouse_12, eX1_withHouse_12N, eX1_withHouse_13, eX1_withHouse_15, eX1_withHouse_18, eX1_withHouse_19, eX1_withHouse_22, eX1_withHouse_23, eX1_withHouse_26, eX1_withHouse_29, eX1_withHouse_30, rx, rn, rc, rl, hx, hn, hc, hl, d1, d2, d3, d4, d5, d6, d7, d8, d9, d10, d11, d12, rd_n, upw_n, ite_le, n45, n54, true_or, or_true, false_or, or_false, false_and, and_false, kx_l, kx_r, go_s, gl_s, gi_s, gb_s2, gb_s3, gq_s, wt_nil, wt_int, wt_long, wt_ref, wt_null, nl_int, nl_long, nl_ref, nl_null, nl_none, rf_n, rf_s, rf_st, tl_s, tl_n, g0, gS, ex1, nb_b, nb_0, nb_1, nf_i, nf_l, nf_ra, nf_ro, nf_na, nf_no, nf_b0, nf_z0, t45_4, t45_5, true_and, and_true, List.set_cons_zero, List.set_cons_succ, List.length_cons, List.length_nil, rd_s, upw_s, ne_eq, not_false_eq_true, Nat.zero_add, Nat.add_zero]
    | split
    | with_reducible intro _
    | omega
set_option maxHeartbeats 4000000 in
theorem sX1_withNumber {a0 : Int64} {a1 : Int64} (hC : CC g w0 x nA cA lA kn w) (hQ : ∀ v : Int64, Q (.inl (some (.long v))) w) : WP (MX1_withNumber g) Q (0, [some (.ref x), some (.long a0), none, some (.long a1), none, none, none], [], w, 0, 0) := by
  obtain ⟨n, rf, md, f, gc, gl, hx, hn, hc, hl, hgc, hgl, hn0, hn1, rx, rn, rc, rl, ⟨d1, d2, d3, d4, d5, d6⟩, ⟨d7, d8, d9, d10, d11, d12⟩⟩ := hC.1.opn g
  repeat' first
    | with_reducible assumption
    | with_reducible refine And.intro ?_ ?_
    | with_reducible exact vpi6 (by assumption) (by assumption)
    | with_reducible exact vpi8 (by assumption) (by assumption)
    | with_reducible refine sX1_highOf ?_
    | with_reducible refine sX1_with ?_
    | with_reducible refine sX1_lowOf ?_
    | with_reducible refine sX1_holdersOf (by first | assumption | exact CC.ext (by assumption) (by assumption)) ?_
    | with_reducible refine go_R (by first | assumption | exact hgc _ _ (by assumption) | exact hgl _ _ (by assumption) | exact isR.ext (by assumption) (by assumption)) ?_
    | with_reducible exact hQ _
    | simp only [eX1_withNumber_0, eX1_withNumber_1, eX1_withNumber_2, eX1_withNumber_5, eX1_withNumber_6, eX1_withNumber_9, eX1_withNumber_11, eX1_withNumber_13, eX1_withNumber_14, eX1_withNumber_17, eX1_withNumber_18, eX1_withNumber_21, eX1_withNumber_23, eX1_withNumber_25, eX1_withNumber_25N, eX1_withNumber_26, eX1_withNumber_27, eX1_withNumber_28, eX1_withNumber_31, eX1_withNumber_32, eX1_withNumber_35, eX1_withNumber_37, eX1_withNumber_39, eX1_withNumber_39N, eX1_withNumber_40, eX1_withNumber_41, eX1_withNumber_42, eX1_withNumber_45, eX1_withNumber_46, eX1_withNumber_49, rx, rn, rc, rl, hx, hn, hc, hl, d1, d2, d3, d4, d5, d6, d7, d8, d9, d10, d11, d12, rd_n, upw_n, ite_le, n45, n54, true_or, or_true, false_or, or_false, false_and, and_false, kx_l, kx_r, go_s, gl_s, gi_s, gb_s2, gb_s3, gq_s, wt_nil, wt_int, wt_long, wt_ref, wt_null, nl_int, nl_long, nl_ref, nl_null, nl_none, rf_n, rf_s, rf_st, tl_s, tl_n, g0, gS, ex1, nb_b, nb_0, nb_1, nf_i, nf_l, nf_ra, nf_ro, nf_na, nf_no, nf_b0, nf_z0, t45_4, t45_5, true_and, and_true, List.set_cons_zero, List.set_cons_succ, List.length_cons, List.length_nil, rd_s, upw_s, ne_eq, not_false_eq_true, Nat.zero_add, Nat.add_zero]
    | split
    | with_reducible intro _
    | omega
set_option maxHeartbeats 4000000 in
theorem lX1_withEnds_5 {a0 : Int64} {a1 : Nat} (h1 : isR w a1) (hQ : ∀ v : Int64, Q (.inl (some (.long v))) w) : ∀ (d : Nat) (i3 : Int64) (i5 : Int32) (i6 : Option Value) (i7 : Option Value) (k m : Nat), ¬ i5 < 0 → (4 : Int32).toInt - i5.toInt ≤ (d : Int) → k ≤ 0 → m ≤ 0 → WP (MX1_withEnds g) Q (5, [some (.long a0), none, some (.ref a1), some (.long i3), none, some (.int i5), i6, i7], [], w, k, m) := by
  intro d
  induction d with
  | zero =>
    intro i3 i5 i6 i7 k m z0 hm hk hs
    rw [eX1_withEnds_5]
    repeat' first
      | with_reducible assumption
      | with_reducible refine And.intro ?_ ?_
      | with_reducible exact vpi6 (by assumption) (by assumption)
      | with_reducible exact vpi8 (by assumption) (by assumption)
      | with_reducible exact (ic_z (by assumption) (by assumption)).elim
      | with_reducible exact vpi12 (by assumption) (by assumption) (by assumption)
      | with_reducible refine sX0_endAt (by first | assumption | exact hgc _ _ (by assumption) | exact hgl _ _ (by assumption) | exact isR.ext (by assumption) (by assumption)) ?_
      | with_reducible refine sX1_highOf ?_
      | with_reducible refine sX1_with ?_
      | with_reducible refine sX1_lowOf ?_
      | with_reducible refine sX1_neighboursIn (by first | assumption | exact hgc _ _ (by assumption) | exact hgl _ _ (by assumption) | exact isR.ext (by assumption) (by assumption)) ?_
      | with_reducible refine go_R (by assumption) ?_
      | with_reducible exact hQ _
      | simp only [eX1_withEnds_0, eX1_withEnds_1, eX1_withEnds_2, eX1_withEnds_3, eX1_withEnds_7, eX1_withEnds_8, eX1_withEnds_11, eX1_withEnds_11N, eX1_withEnds_12, eX1_withEnds_14, eX1_withEnds_17, eX1_withEnds_19, eX1_withEnds_20, eX1_withEnds_22, eX1_withEnds_25, eX1_withEnds_26, eX1_withEnds_29, eX1_withEnds_30, eX1_withEnds_31, eX1_withEnds_33, eX1_withEnds_36, eX1_withEnds_37, eX1_withEnds_40, eX1_withEnds_41, eX1_withEnds_42, eX1_withEnds_42N, eX1_withEnds_43, eX1_withEnds_45, eX1_withEnds_46R, eX1_withEnds_46N, eX1_withEnds_49, eX1_withEnds_50, eX1_withEnds_53, eX1_withEnds_54, eX1_withEnds_55, eX1_withEnds_55N, eX1_withEnds_56, eX1_withEnds_58, eX1_withEnds_59R, eX1_withEnds_59N, eX1_withEnds_62, eX1_withEnds_63, eX1_withEnds_66, eX1_withEnds_67, eX1_withEnds_70, eX1_withEnds_73, eX1_withEnds_74, ite_le, n45, n54, true_or, or_true, false_or, or_false, false_and, and_false, kx_l, kx_r, go_s, gl_s, gi_s, gb_s2, gb_s3, gq_s, wt_nil, wt_int, wt_long, wt_ref, wt_null, nl_int, nl_long, nl_ref, nl_null, nl_none, rf_n, rf_s, rf_st, tl_s, tl_n, g0, gS, ex1, nb_b, nb_0, nb_1, nf_i, nf_l, nf_ra, nf_ro, nf_na, nf_no, nf_b0, nf_z0, t45_4, t45_5, true_and, and_true, List.set_cons_zero, List.set_cons_succ, List.length_cons, List.length_nil, rd_s, upw_s, ne_eq, not_false_eq_true, Nat.zero_add, Nat.add_zero]
      | split
      | with_reducible intro _
      | omega
  | succ d ih =>
    intro i3 i5 i6 i7 k m z0 hm hk hs
    rw [eX1_withEnds_5]
    repeat' first
      | with_reducible assumption
      | with_reducible refine And.intro ?_ ?_
      | with_reducible exact vpi6 (by assumption) (by assumption)
      | with_reducible exact vpi8 (by assumption) (by assumption)
      | with_reducible exact ih _ _ _ _ _ _ (ic_p (by assumption) (by assumption)) (ic_s (by assumption) (by assumption)) (by first | assumption | omega) (by first | assumption | omega)
      | with_reducible exact vpi12 (by assumption) (by assumption) (by assumption)
      | with_reducible refine sX0_endAt (by first | assumption | exact hgc _ _ (by assumption) | exact hgl _ _ (by assumption) | exact isR.ext (by assumption) (by assumption)) ?_
      | with_reducible refine sX1_highOf ?_
      | with_reducible refine sX1_with ?_
      | with_reducible refine sX1_lowOf ?_
      | with_reducible refine sX1_neighboursIn (by first | assumption | exact hgc _ _ (by assumption) | exact hgl _ _ (by assumption) | exact isR.ext (by assumption) (by assumption)) ?_
      | with_reducible refine go_R (by assumption) ?_
      | with_reducible exact hQ _
      | simp only [eX1_withEnds_0, eX1_withEnds_1, eX1_withEnds_2, eX1_withEnds_3, eX1_withEnds_7, eX1_withEnds_8, eX1_withEnds_11, eX1_withEnds_11N, eX1_withEnds_12, eX1_withEnds_14, eX1_withEnds_17, eX1_withEnds_19, eX1_withEnds_20, eX1_withEnds_22, eX1_withEnds_25, eX1_withEnds_26, eX1_withEnds_29, eX1_withEnds_30, eX1_withEnds_31, eX1_withEnds_33, eX1_withEnds_36, eX1_withEnds_37, eX1_withEnds_40, eX1_withEnds_41, eX1_withEnds_42, eX1_withEnds_42N, eX1_withEnds_43, eX1_withEnds_45, eX1_withEnds_46R, eX1_withEnds_46N, eX1_withEnds_49, eX1_withEnds_50, eX1_withEnds_53, eX1_withEnds_54, eX1_withEnds_55, eX1_withEnds_55N, eX1_withEnds_56, eX1_withEnds_58, eX1_withEnds_59R, eX1_withEnds_59N, eX1_withEnds_62, eX1_withEnds_63, eX1_withEnds_66, eX1_withEnds_67, eX1_withEnds_70, eX1_withEnds_73, eX1_withEnds_74, ite_le, n45, n54, true_or, or_true, false_or, or_false, false_and, and_false, kx_l, kx_r, go_s, gl_s, gi_s, gb_s2, gb_s3, gq_s, wt_nil, wt_int, wt_long, wt_ref, wt_null, nl_int, nl_long, nl_ref, nl_null, nl_none, rf_n, rf_s, rf_st, tl_s, tl_n, g0, gS, ex1, nb_b, nb_0, nb_1, nf_i, nf_l, nf_ra, nf_ro, nf_na, nf_no, nf_b0, nf_z0, t45_4, t45_5, true_and, and_true, List.set_cons_zero, List.set_cons_succ, List.length_cons, List.length_nil, rd_s, upw_s, ne_eq, not_false_eq_true, Nat.zero_add, Nat.add_zero]
      | split
      | with_reducible intro _
      | omega
set_option maxHeartbeats 4000000 in
theorem sX1_withEnds {a0 : Int64} {a1 : Nat} (h1 : isR w a1) (hQ : ∀ v : Int64, Q (.inl (some (.long v))) w) : WP (MX1_withEnds g) Q (0, [some (.long a0), none, some (.ref a1), none, none, none, none, none], [], w, 0, 0) := by
  repeat' first
    | with_reducible assumption
    | with_reducible refine And.intro ?_ ?_
    | with_reducible exact vpi6 (by assumption) (by assumption)
    | with_reducible exact vpi8 (by assumption) (by assumption)
    | with_reducible exact lX1_withEnds_5 h1 hQ 70 _ _ _ _ _ _ (by first | decide | assumption) (by first | decide | exact n12 (by assumption) | exact n60 (by assumption)) (by first | decide | omega) (by first | decide | omega)
    | with_reducible refine sX0_endAt (by first | assumption | exact hgc _ _ (by assumption) | exact hgl _ _ (by assumption) | exact isR.ext (by assumption) (by assumption)) ?_
    | with_reducible refine sX1_highOf ?_
    | with_reducible refine sX1_with ?_
    | with_reducible refine sX1_lowOf ?_
    | with_reducible refine sX1_neighboursIn (by first | assumption | exact hgc _ _ (by assumption) | exact hgl _ _ (by assumption) | exact isR.ext (by assumption) (by assumption)) ?_
    | with_reducible refine go_R (by assumption) ?_
    | with_reducible exact hQ _
    | simp only [eX1_withEnds_0, eX1_withEnds_1, eX1_withEnds_2, eX1_withEnds_3, eX1_withEnds_7, eX1_withEnds_8, eX1_withEnds_11, eX1_withEnds_11N, eX1_withEnds_12, eX1_withEnds_14, eX1_withEnds_17, eX1_withEnds_19, eX1_withEnds_20, eX1_withEnds_22, eX1_withEnds_25, eX1_withEnds_26, eX1_withEnds_29, eX1_withEnds_30, eX1_withEnds_31, eX1_withEnds_33, eX1_withEnds_36, eX1_withEnds_37, eX1_withEnds_40, eX1_withEnds_41, eX1_withEnds_42, eX1_withEnds_42N, eX1_withEnds_43, eX1_withEnds_45, eX1_withEnds_46R, eX1_withEnds_46N, eX1_withEnds_49, eX1_withEnds_50, eX1_withEnds_53, eX1_withEnds_54, eX1_withEnds_55, eX1_withEnds_55N, eX1_withEnds_56, eX1_withEnds_58, eX1_withEnds_59R, eX1_withEnds_59N, eX1_withEnds_62, eX1_withEnds_63, eX1_withEnds_66, eX1_withEnds_67, eX1_withEnds_70, eX1_withEnds_73, eX1_withEnds_74, ite_le, n45, n54, true_or, or_true, false_or, or_false, false_and, and_false, kx_l, kx_r, go_s, gl_s, gi_s, gb_s2, gb_s3, gq_s, wt_nil, wt_int, wt_long, wt_ref, wt_null, nl_int, nl_long, nl_ref, nl_null, nl_none, rf_n, rf_s, rf_st, tl_s, tl_n, g0, gS, ex1, nb_b, nb_0, nb_1, nf_i, nf_l, nf_ra, nf_ro, nf_na, nf_no, nf_b0, nf_z0, t45_4, t45_5, true_and, and_true, List.set_cons_zero, List.set_cons_succ, List.length_cons, List.length_nil, rd_s, upw_s, ne_eq, not_false_eq_true, Nat.zero_add, Nat.add_zero]
    | split
    | with_reducible intro _
    | omega
end
end
/-! 67.22.class6.lean.txt -/
section
section
variable {g : RO} {Q : Ot → Hw → Prop} {w0 w : Hw} {x nA cA lA : Nat} {kn : Int32}
set_option maxHeartbeats 4000000 in
theorem lX1_withCard_106R {a0 : Int64} {a1 : Nat} (hC : CC g w0 x nA cA lA kn w) (h1 : isR w a1) (hQ : ∀ v : Int64, Q (.inl (some (.long v))) w) : ∀ (n rf md : Int32) (f : Nat → Int64) (gc gl : Nat → Option Nat), RO5 g w x nA cA lA n rf kn md f gc gl → ∀ (d : Nat) (i4 : Int64) (i6 : Int32) (k m : Nat), (1 : Int32).toInt + 1 - i6.toInt ≤ (d : Int) → k ≤ 0 → m ≤ 0 → WP (MX1_withCard g) Q (106, [some (.ref x), some (.long a0), none, some (.ref a1), some (.long i4), none, some (.int i6)], [], w, k, m) := by
  rintro n rf md f gc gl ⟨hx, hn, hc, hl, hgc, hgl, hn0, hn1, rx, rn, rc, rl, ⟨d1, d2, d3, d4, d5, d6⟩, ⟨d7, d8, d9, d10, d11, d12⟩⟩ d
  induction d with
  | zero =>
    intro i4 i6 k m hm hk hs
    rw [eX1_withCard_106]
    repeat' first
      | with_reducible assumption
      | with_reducible refine And.intro ?_ ?_
      | with_reducible exact vpi6 (by assumption) (by assumption)
      | with_reducible exact vpi8 (by assumption) (by assumption)
      | with_reducible exact (ic_zl (by assumption) (by assumption)).elim
      | with_reducible exact vpi12 (by assumption) (by assumption) (by assumption)
      | with_reducible refine sX1_with ?_
      | with_reducible refine sX1_withEnds (by first | assumption | exact hgc _ _ (by assumption) | exact hgl _ _ (by assumption) | exact isR.ext (by assumption) (by assumption)) ?_
      | with_reducible refine sX0_isSettled (by first | assumption | exact hgc _ _ (by assumption) | exact hgl _ _ (by assumption) | exact isR.ext (by assumption) (by assumption)) ?_
      | with_reducible refine sX1_asNumber ?_
      | with_reducible refine sX0_fitsSmall (by first | assumption | exact hgc _ _ (by assumption) | exact hgl _ _ (by assumption) | exact isR.ext (by assumption) (by assumption)) ?_
      | with_reducible refine sX1_cardsLike (by first | assumption | exact CC.ext (by assumption) (by assumption)) (by first | assumption | exact hgc _ _ (by assumption) | exact hgl _ _ (by assumption) | exact isR.ext (by assumption) (by assumption)) ?_
      | with_reducible refine sX1_firstPlaceOf (by first | assumption | exact CC.ext (by assumption) (by assumption)) (by first | assumption | exact hgc _ _ (by assumption) | exact hgl _ _ (by assumption) | exact isR.ext (by assumption) (by assumption)) ?_
      | with_reducible refine sX1_lastPlaceOf (by first | assumption | exact CC.ext (by assumption) (by assumption)) (by first | assumption | exact hgc _ _ (by assumption) | exact hgl _ _ (by assumption) | exact isR.ext (by assumption) (by assumption)) ?_
      | with_reducible refine sX1_timesLaid (by first | assumption | exact CC.ext (by assumption) (by assumption)) (by first | assumption | exact hgc _ _ (by assumption) | exact hgl _ _ (by assumption) | exact isR.ext (by assumption) (by assumption)) ?_
      | with_reducible refine sX1_validityIn (by first | assumption | exact hgc _ _ (by assumption) | exact hgl _ _ (by assumption) | exact isR.ext (by assumption) (by assumption)) ?_
      | with_reducible refine go_R (by first | assumption | exact hgc _ _ (by assumption) | exact hgl _ _ (by assumption) | exact isR.ext (by assumption) (by assumption)) ?_
      | with_reducible exact hQ _
      | simp only [eX1_withCard_0, eX1_withCard_0N, eX1_withCard_1R, eX1_withCard_1N, eX1_withCard_4, eX1_withCard_5, eX1_withCard_6, eX1_withCard_9, eX1_withCard_10, eX1_withCard_11, eX1_withCard_12, eX1_withCard_15, eX1_withCard_15N, eX1_withCard_16R, eX1_withCard_16N, eX1_withCard_19, eX1_withCard_21, eX1_withCard_23, eX1_withCard_23N, eX1_withCard_24, eX1_withCard_27, eX1_withCard_30, eX1_withCard_31, eX1_withCard_34, eX1_withCard_36, eX1_withCard_38, eX1_withCard_38N, eX1_withCard_39, eX1_withCard_42, eX1_withCard_45, eX1_withCard_46, eX1_withCard_49, eX1_withCard_51, eX1_withCard_53, eX1_withCard_53N, eX1_withCard_54, eX1_withCard_54N, eX1_withCard_55R, eX1_withCard_55N, eX1_withCard_58, eX1_withCard_59, eX1_withCard_62, eX1_withCard_64, eX1_withCard_66, eX1_withCard_66N, eX1_withCard_67, eX1_withCard_67N, eX1_withCard_68R, eX1_withCard_68N, eX1_withCard_71, eX1_withCard_72, eX1_withCard_75, eX1_withCard_77, eX1_withCard_79, eX1_withCard_79N, eX1_withCard_80, eX1_withCard_80N, eX1_withCard_81R, eX1_withCard_81N, eX1_withCard_84, eX1_withCard_85, eX1_withCard_88, eX1_withCard_90, eX1_withCard_92, eX1_withCard_92N, eX1_withCard_93, eX1_withCard_93N, eX1_withCard_94R, eX1_withCard_94N, eX1_withCard_97, eX1_withCard_98, eX1_withCard_101, eX1_withCard_103, eX1_withCard_104, eX1_withCard_108, eX1_withCard_109, eX1_withCard_112, eX1_withCard_114, eX1_withCard_114N, eX1_withCard_115, eX1_withCard_117, eX1_withCard_118R, eX1_withCard_118N, eX1_withCard_121, eX1_withCard_122, eX1_withCard_125, eX1_withCard_127, eX1_withCard_130, eX1_withCard_133, eX1_withCard_135, rx, rn, rc, rl, hx, hn, hc, hl, d1, d2, d3, d4, d5, d6, d7, d8, d9, d10, d11, d12, rd_n, upw_n, ite_le, n45, n54, true_or, or_true, false_or, or_false, false_and, and_false, kx_l, kx_r, go_s, gl_s, gi_s, gb_s2, gb_s3, gq_s, wt_nil, wt_int, wt_long, wt_ref, wt_null, nl_int, nl_long, nl_ref, nl_null, nl_none, rf_n, rf_s, rf_st, tl_s, tl_n, g0, gS, ex1, nb_b, nb_0, nb_1, nf_i, nf_l, nf_ra, nf_ro, nf_na, nf_no, nf_b0, nf_z0, t45_4, t45_5, true_and, and_true, List.set_cons_zero, List.set_cons_succ, List.length_cons, List.length_nil, rd_s, upw_s, ne_eq, not_false_eq_true, Nat.zero_add, Nat.add_zero]
      | split
      | with_reducible intro _
      | omega
  | succ d ih =>
    intro i4 i6 k m hm hk hs
    rw [eX1_withCard_106]
    repeat' first
      | with_reducible assumption
      | with_reducible refine And.intro ?_ ?_
      | with_reducible exact vpi6 (by assumption) (by assumption)
      | with_reducible exact vpi8 (by assumption) (by assumption)
      | with_reducible exact ih _ _ _ _ (ic_sl (by assumption) (by assumption) (by decide)) (by first | assumption | omega) (by first | assumption | omega)
      | with_reducible exact vpi12 (by assumption) (by assumption) (by assumption)
      | with_reducible refine sX1_with ?_
      | with_reducible refine sX1_withEnds (by first | assumption | exact hgc _ _ (by assumption) | exact hgl _ _ (by assumption) | exact isR.ext (by assumption) (by assumption)) ?_
      | with_reducible refine sX0_isSettled (by first | assumption | exact hgc _ _ (by assumption) | exact hgl _ _ (by assumption) | exact isR.ext (by assumption) (by assumption)) ?_
      | with_reducible refine sX1_asNumber ?_
      | with_reducible refine sX0_fitsSmall (by first | assumption | exact hgc _ _ (by assumption) | exact hgl _ _ (by assumption) | exact isR.ext (by assumption) (by assumption)) ?_
      | with_reducible refine sX1_cardsLike (by first | assumption | exact CC.ext (by assumption) (by assumption)) (by first | assumption | exact hgc _ _ (by assumption) | exact hgl _ _ (by assumption) | exact isR.ext (by assumption) (by assumption)) ?_
      | with_reducible refine sX1_firstPlaceOf (by first | assumption | exact CC.ext (by assumption) (by assumption)) (by first | assumption | exact hgc _ _ (by assumption) | exact hgl _ _ (by assumption) | exact isR.ext (by assumption) (by assumption)) ?_
      | with_reducible refine sX1_lastPlaceOf (by first | assumption | exact CC.ext (by assumption) (by assumption)) (by first | assumption | exact hgc _ _ (by assumption) | exact hgl _ _ (by assumption) | exact isR.ext (by assumption) (by assumption)) ?_
      | with_reducible refine sX1_timesLaid (by first | assumption | exact CC.ext (by assumption) (by assumption)) (by first | assumption | exact hgc _ _ (by assumption) | exact hgl _ _ (by assumption) | exact isR.ext (by assumption) (by assumption)) ?_
      | with_reducible refine sX1_validityIn (by first | assumption | exact hgc _ _ (by assumption) | exact hgl _ _ (by assumption) | exact isR.ext (by assumption) (by assumption)) ?_
      | with_reducible refine go_R (by first | assumption | exact hgc _ _ (by assumption) | exact hgl _ _ (by assumption) | exact isR.ext (by assumption) (by assumption)) ?_
      | with_reducible exact hQ _
      | simp only [eX1_withCard_0, eX1_withCard_0N, eX1_withCard_1R, eX1_withCard_1N, eX1_withCard_4, eX1_withCard_5, eX1_withCard_6, eX1_withCard_9, eX1_withCard_10, eX1_withCard_11, eX1_withCard_12, eX1_withCard_15, eX1_withCard_15N, eX1_withCard_16R, eX1_withCard_16N, eX1_withCard_19, eX1_withCard_21, eX1_withCard_23, eX1_withCard_23N, eX1_withCard_24, eX1_withCard_27, eX1_withCard_30, eX1_withCard_31, eX1_withCard_34, eX1_withCard_36, eX1_withCard_38, eX1_withCard_38N, eX1_withCard_39, eX1_withCard_42, eX1_withCard_45, eX1_withCard_46, eX1_withCard_49, eX1_withCard_51, eX1_withCard_53, eX1_withCard_53N, eX1_withCard_54, eX1_withCard_54N, eX1_withCard_55R, eX1_withCard_55N, eX1_withCard_58, eX1_withCard_59, eX1_withCard_62, eX1_withCard_64, eX1_withCard_66, eX1_withCard_66N, eX1_withCard_67, eX1_withCard_67N, eX1_withCard_68R, eX1_withCard_68N, eX1_withCard_71, eX1_withCard_72, eX1_withCard_75, eX1_withCard_77, eX1_withCard_79, eX1_withCard_79N, eX1_withCard_80, eX1_withCard_80N, eX1_withCard_81R, eX1_withCard_81N, eX1_withCard_84, eX1_withCard_85, eX1_withCard_88, eX1_withCard_90, eX1_withCard_92, eX1_withCard_92N, eX1_withCard_93, eX1_withCard_93N, eX1_withCard_94R, eX1_withCard_94N, eX1_withCard_97, eX1_withCard_98, eX1_withCard_101, eX1_withCard_103, eX1_withCard_104, eX1_withCard_108, eX1_withCard_109, eX1_withCard_112, eX1_withCard_114, eX1_withCard_114N, eX1_withCard_115, eX1_withCard_117, eX1_withCard_118R, eX1_withCard_118N, eX1_withCard_121, eX1_withCard_122, eX1_withCard_125, eX1_withCard_127, eX1_withCard_130, eX1_withCard_133, eX1_withCard_135, rx, rn, rc, rl, hx, hn, hc, hl, d1, d2, d3, d4, d5, d6, d7, d8, d9, d10, d11, d12, rd_n, upw_n, ite_le, n45, n54, true_or, or_true, false_or, or_false, false_and, and_false, kx_l, kx_r, go_s, gl_s, gi_s, gb_s2, gb_s3, gq_s, wt_nil, wt_int, wt_long, wt_ref, wt_null, nl_int, nl_long, nl_ref, nl_null, nl_none, rf_n, rf_s, rf_st, tl_s, tl_n, g0, gS, ex1, nb_b, nb_0, nb_1, nf_i, nf_l, nf_ra, nf_ro, nf_na, nf_no, nf_b0, nf_z0, t45_4, t45_5, true_and, and_true, List.set_cons_zero, List.set_cons_succ, List.length_cons, List.length_nil, rd_s, upw_s, ne_eq, not_false_eq_true, Nat.zero_add, Nat.add_zero]
      | split
      | with_reducible intro _
      | omega
set_option maxHeartbeats 4000000 in
theorem sX1_withCardR {a0 : Int64} {a1 : Nat} (hC : CC g w0 x nA cA lA kn w) (h1 : isR w a1) (hQ : ∀ v : Int64, Q (.inl (some (.long v))) w) : WP (MX1_withCard g) Q (0, [some (.ref x), some (.long a0), none, some (.ref a1), none, none, none], [], w, 0, 0) := by
  obtain ⟨n, rf, md, f, gc, gl, hx, hn, hc, hl, hgc, hgl, hn0, hn1, rx, rn, rc, rl, ⟨d1, d2, d3, d4, d5, d6⟩, ⟨d7, d8, d9, d10, d11, d12⟩⟩ := hC.1.opn g
  repeat' first
    | with_reducible assumption
    | with_reducible refine And.intro ?_ ?_
    | with_reducible exact vpi6 (by assumption) (by assumption)
    | with_reducible exact vpi8 (by assumption) (by assumption)
    | with_reducible exact lX1_withCard_106R hC h1 hQ _ _ _ _ _ _ ⟨hx, hn, hc, hl, hgc, hgl, hn0, hn1, rx, rn, rc, rl, ⟨d1, d2, d3, d4, d5, d6⟩, ⟨d7, d8, d9, d10, d11, d12⟩⟩ 70 _ _ _ _ (by first | decide | exact n12 (by assumption) | exact n60 (by assumption)) (by first | decide | omega) (by first | decide | omega)
    | with_reducible refine sX1_with ?_
    | with_reducible refine sX1_withEnds (by first | assumption | exact hgc _ _ (by assumption) | exact hgl _ _ (by assumption) | exact isR.ext (by assumption) (by assumption)) ?_
    | with_reducible refine sX0_isSettled (by first | assumption | exact hgc _ _ (by assumption) | exact hgl _ _ (by assumption) | exact isR.ext (by assumption) (by assumption)) ?_
    | with_reducible refine sX1_asNumber ?_
    | with_reducible refine sX0_fitsSmall (by first | assumption | exact hgc _ _ (by assumption) | exact hgl _ _ (by assumption) | exact isR.ext (by assumption) (by assumption)) ?_
    | with_reducible refine sX1_cardsLike (by first | assumption | exact CC.ext (by assumption) (by assumption)) (by first | assumption | exact hgc _ _ (by assumption) | exact hgl _ _ (by assumption) | exact isR.ext (by assumption) (by assumption)) ?_
    | with_reducible refine sX1_firstPlaceOf (by first | assumption | exact CC.ext (by assumption) (by assumption)) (by first | assumption | exact hgc _ _ (by assumption) | exact hgl _ _ (by assumption) | exact isR.ext (by assumption) (by assumption)) ?_
    | with_reducible refine sX1_lastPlaceOf (by first | assumption | exact CC.ext (by assumption) (by assumption)) (by first | assumption | exact hgc _ _ (by assumption) | exact hgl _ _ (by assumption) | exact isR.ext (by assumption) (by assumption)) ?_
    | with_reducible refine sX1_timesLaid (by first | assumption | exact CC.ext (by assumption) (by assumption)) (by first | assumption | exact hgc _ _ (by assumption) | exact hgl _ _ (by assumption) | exact isR.ext (by assumption) (by assumption)) ?_
    | with_reducible refine sX1_validityIn (by first | assumption | exact hgc _ _ (by assumption) | exact hgl _ _ (by assumption) | exact isR.ext (by assumption) (by assumption)) ?_
    | with_reducible refine go_R (by first | assumption | exact hgc _ _ (by assumption) | exact hgl _ _ (by assumption) | exact isR.ext (by assumption) (by assumption)) ?_
    | with_reducible exact hQ _
    | simp only [eX1_withCard_0, eX1_withCard_0N, eX1_withCard_1R, eX1_withCard_1N, eX1_withCard_4, eX1_withCard_5, eX1_withCard_6, eX1_withCard_9, eX1_withCard_10, eX1_withCard_11, eX1_withCard_12, eX1_withCard_15, eX1_withCard_15N, eX1_withCard_16R, eX1_withCard_16N, eX1_withCard_19, eX1_withCard_21, eX1_withCard_23, eX1_withCard_23N, eX1_withCard_24, eX1_withCard_27, eX1_withCard_30, eX1_withCard_31, eX1_withCard_34, eX1_withCard_36, eX1_withCard_38, eX1_withCard_38N, eX1_withCard_39, eX1_withCard_42, eX1_withCard_45, eX1_withCard_46, eX1_withCard_49, eX1_withCard_51, eX1_withCard_53, eX1_withCard_53N, eX1_withCard_54, eX1_withCard_54N, eX1_withCard_55R, eX1_withCard_55N, eX1_withCard_58, eX1_withCard_59, eX1_withCard_62, eX1_withCard_64, eX1_withCard_66, eX1_withCard_66N, eX1_withCard_67, eX1_withCard_67N, eX1_withCard_68R, eX1_withCard_68N, eX1_withCard_71, eX1_withCard_72, eX1_withCard_75, eX1_withCard_77, eX1_withCard_79, eX1_withCard_79N, eX1_withCard_80, eX1_withCard_80N, eX1_withCard_81R, eX1_withCard_81N, eX1_withCard_84, eX1_withCard_85, eX1_withCard_88, eX1_withCard_90, eX1_withCard_92, eX1_withCard_92N, eX1_withCard_93, eX1_withCard_93N, eX1_withCard_94R, eX1_withCard_94N, eX1_withCard_97, eX1_withCard_98, eX1_withCard_101, eX1_withCard_103, eX1_withCard_104, eX1_withCard_108, eX1_withCard_109, eX1_withCard_112, eX1_withCard_114, eX1_withCard_114N, eX1_withCard_115, eX1_withCard_117, eX1_withCard_118R, eX1_withCard_118N, eX1_withCard_121, eX1_withCard_122, eX1_withCard_125, eX1_withCard_127, eX1_withCard_130, eX1_withCard_133, eX1_withCard_135, rx, rn, rc, rl, hx, hn, hc, hl, d1, d2, d3, d4, d5, d6, d7, d8, d9, d10, d11, d12, rd_n, upw_n, ite_le, n45, n54, true_or, or_true, false_or, or_false, false_and, and_false, kx_l, kx_r, go_s, gl_s, gi_s, gb_s2, gb_s3, gq_s, wt_nil, wt_int, wt_long, wt_ref, wt_null, nl_int, nl_long, nl_ref, nl_null, nl_none, rf_n, rf_s, rf_st, tl_s, tl_n, g0, gS, ex1, nb_b, nb_0, nb_1, nf_i, nf_l, nf_ra, nf_ro, nf_na, nf_no, nf_b0, nf_z0, t45_4, t45_5, true_and, and_true, List.set_cons_zero, List.set_cons_succ, List.length_cons, List.length_nil, rd_s, upw_s, ne_eq, not_false_eq_true, Nat.zero_add, Nat.add_zero]
    | split
    | with_reducible intro _
    | omega
set_option maxHeartbeats 4000000 in
theorem sX1_withCardN {a0 : Int64} (hC : CC g w0 x nA cA lA kn w) (hQ : ∀ v : Int64, Q (.inl (some (.long v))) w) : WP (MX1_withCard g) Q (0, [some (.ref x), some (.long a0), none, some .null, none, none, none], [], w, 0, 0) := by
  obtain ⟨n, rf, md, f, gc, gl, hx, hn, hc, hl, hgc, hgl, hn0, hn1, rx, rn, rc, rl, ⟨d1, d2, d3, d4, d5, d6⟩, ⟨d7, d8, d9, d10, d11, d12⟩⟩ := hC.1.opn g
  repeat' first
    | with_reducible assumption
    | with_reducible refine And.intro ?_ ?_
    | with_reducible exact vpi6 (by assumption) (by assumption)
    | with_reducible exact vpi8 (by assumption) (by assumption)
    | with_reducible refine sX1_with ?_
    | with_reducible refine sX1_withEnds (by first | assumption | exact hgc _ _ (by assumption) | exact hgl _ _ (by assumption) | exact isR.ext (by assumption) (by assumption)) ?_
    | with_reducible refine sX0_isSettled (by first | assumption | exact hgc _ _ (by assumption) | exact hgl _ _ (by assumption) | exact isR.ext (by assumption) (by assumption)) ?_
    | with_reducible refine sX1_asNumber ?_
    | with_reducible refine sX0_fitsSmall (by first | assumption | exact hgc _ _ (by assumption) | exact hgl _ _ (by assumption) | exact isR.ext (by assumption) (by assumption)) ?_
    | with_reducible refine sX1_cardsLike (by first | assumption | exact CC.ext (by assumption) (by assumption)) (by first | assumption | exact hgc _ _ (by assumption) | exact hgl _ _ (by assumption) | exact isR.ext (by assumption) (by assumption)) ?_
    | with_reducible refine sX1_firstPlaceOf (by first | assumption | exact CC.ext (by assumption) (by assumption)) (by first | assumption | exact hgc _ _ (by assumption) | exact hgl _ _ (by assumption) | exact isR.ext (by assumption) (by assumption)) ?_
    | with_reducible refine sX1_lastPlaceOf (by first | assumption | exact CC.ext (by assumption) (by assumption)) (by first | assumption | exact hgc _ _ (by assumption) | exact hgl _ _ (by assumption) | exact isR.ext (by assumption) (by assumption)) ?_
    | with_reducible refine sX1_timesLaid (by first | assumption | exact CC.ext (by assumption) (by assumption)) (by first | assumption | exact hgc _ _ (by assumption) | exact hgl _ _ (by assumption) | exact isR.ext (by assumption) (by assumption)) ?_
    | with_reducible refine sX1_validityIn (by first | assumption | exact hgc _ _ (by assumption) | exact hgl _ _ (by assumption) | exact isR.ext (by assumption) (by assumption)) ?_
    | with_reducible refine go_R (by first | assumption | exact hgc _ _ (by assumption) | exact hgl _ _ (by assumption) | exact isR.ext (by assumption) (by assumption)) ?_
    | with_reducible exact hQ _
    | simp only [eX1_withCard_0, eX1_withCard_0N, eX1_withCard_1R, eX1_withCard_1N, eX1_withCard_4, eX1_withCard_5, eX1_withCard_6, eX1_withCard_9, eX1_withCard_10, eX1_withCard_11, eX1_withCard_12, eX1_withCard_15, eX1_withCard_15N, eX1_withCard_16R, eX1_withCard_16N, eX1_withCard_19, eX1_withCard_21, eX1_withCard_23, eX1_withCard_23N, eX1_withCard_24, eX1_withCard_27, eX1_withCard_30, eX1_withCard_31, eX1_withCard_34, eX1_withCard_36, eX1_withCard_38, eX1_withCard_38N, eX1_withCard_39, eX1_withCard_42, eX1_withCard_45, eX1_withCard_46, eX1_withCard_49, eX1_withCard_51, eX1_withCard_53, eX1_withCard_53N, eX1_withCard_54, eX1_withCard_54N, eX1_withCard_55R, eX1_withCard_55N, eX1_withCard_58, eX1_withCard_59, eX1_withCard_62, eX1_withCard_64, eX1_withCard_66, eX1_withCard_66N, eX1_withCard_67, eX1_withCard_67N, eX1_withCard_68R, eX1_withCard_68N, eX1_withCard_71, eX1_withCard_72, eX1_withCard_75, eX1_withCard_77, eX1_withCard_79, eX1_withCard_79N, eX1_withCard_80, eX1_withCard_80N, eX1_withCard_81R, eX1_withCard_81N, eX1_withCard_84, eX1_withCard_85, eX1_withCard_88, eX1_withCard_90, eX1_withCard_92, eX1_withCard_92N, eX1_withCard_93, eX1_withCard_93N, eX1_withCard_94R, eX1_withCard_94N, eX1_withCard_97, eX1_withCard_98, eX1_withCard_101, eX1_withCard_103, eX1_withCard_104, eX1_withCard_108, eX1_withCard_109, eX1_withCard_112, eX1_withCard_114, eX1_withCard_114N, eX1_withCard_115, eX1_withCard_117, eX1_withCard_118R, eX1_withCard_118N, eX1_withCard_121, eX1_withCard_122, eX1_withCard_125, eX1_withCard_127, eX1_withCard_130, eX1_withCard_133, eX1_withCard_135, rx, rn, rc, rl, hx, hn, hc, hl, d1, d2, d3, d4, d5, d6, d7, d8, d9, d10, d11, d12, rd_n, upw_n, ite_le, n45, n54, true_or, or_true, false_or, or_false, false_and, and_false, kx_l, kx_r, go_s, gl_s, gi_s, gb_s2, gb_s3, gq_s, wt_nil, wt_int, wt_long, wt_ref, wt_null, nl_int, nl_long, nl_ref, nl_null, nl_none, rf_n, rf_s, rf_st, tl_s, tl_n, g0, gS, ex1, nb_b, nb_0, nb_1, nf_i, nf_l, nf_ra, nf_ro, nf_na, nf_no, nf_b0, nf_z0, t45_4, t45_5, true_and, and_true, List.set_cons_zero, List.set_cons_succ, List.length_cons, List.length_nil, rd_s, upw_s, ne_eq, not_false_eq_true, Nat.zero_add, Nat.add_zero]
    | split
    | with_reducible intro _
    | omega
end
end
/-! 67.22.class7.lean.txt -/
section
section
variable {g : RO} {Q : Ot → Hw → Prop} {w0 w : Hw} {x nA cA lA : Nat} {kn : Int32}
theorem vp08 : vp_in 0 8 := vpi8 (by decide) (by decide)
theorem go_C (h : CC g w0 x nA cA lA kn w) : go (rd g w x) 5 (fun _ => True) := by
  obtain ⟨n, rf, md, f, gc, gl, hx, hn, hc, hl, hgc, hgl, hn0, hn1, rx, rn, rc, rl, ⟨d1, d2, d3, d4, d5, d6⟩, ⟨d7, d8, d9, d10, d11, d12⟩⟩ := h.1.opn g
  rw [rx, go_s]
  trivial
theorem isR.mono {w1 w2 : Hw} {b : Nat} (hm : ∀ b, isR w1 b → isR w2 b) (h : isR w1 b) : isR w2 b := hm b h
set_option maxHeartbeats 4000000 in
theorem lX1_withWhichAndPile_32 {a0 : Int64} (hC : CC g w0 x nA cA lA kn w) (hQ : ∀ v : Int64, Q (.inl (some (.long v))) w) : ∀ (n rf md : Int32) (f : Nat → Int64) (gc gl : Nat → Option Nat), RO5 g w x nA cA lA n rf kn md f gc gl → ∀ (d : Nat) (i3 : Int64) (i5 : Int32) (k m : Nat), ¬ i5 < 0 → (5 : Int32).toInt + 1 - i5.toInt ≤ (d : Int) → k ≤ 0 → m ≤ 0 → WP (MX1_withWhichAndPile g) Q (32, [some (.ref x), some (.long a0), none, some (.long i3), none, some (.int i5)], [], w, k, m) := by
  rintro n rf md f gc gl ⟨hx, hn, hc, hl, hgc, hgl, hn0, hn1, rx, rn, rc, rl, ⟨d1, d2, d3, d4, d5, d6⟩, ⟨d7, d8, d9, d10, d11, d12⟩⟩ d
  induction d with
  | zero =>
    intro i3 i5 k m z0 hm hk hs
    rw [eX1_withWhichAndPile_32]
    repeat' first
      | with_reducible assumption
      | with_reducible refine And.intro ?_ ?_
      | with_reducible exact vpi6 (by assumption) (by assumption)
      | with_reducible exact vpi8 (by assumption) (by assumption)
      | with_reducible exact (ic_zl (by assumption) (by assumption)).elim
      | with_reducible exact vpi12 (by assumption) (by assumption) (by assumption)
      | with_reducible refine sX1_cardsThatAre (by first | assumption | exact CC.ext (by assumption) (by assumption)) ?_ (by first | assumption | decide) (by first | assumption | decide)
      | with_reducible refine sX1_with ?_
      | with_reducible refine sX1_pileCount (by first | assumption | exact CC.ext (by assumption) (by assumption)) ?_
      | with_reducible refine go_R (by first | assumption | exact hgc _ _ (by assumption) | exact hgl _ _ (by assumption) | exact isR.ext (by assumption) (by assumption) | exact isR.mono (by assumption) (by first | assumption | exact isR.ext (by assumption) (by assumption))) ?_
      | with_reducible exact vp08
      | with_reducible exact hQ _
      | simp only [eX1_withWhichAndPile_0, eX1_withWhichAndPile_1, eX1_withWhichAndPile_2, eX1_withWhichAndPile_3, eX1_withWhichAndPile_7, eX1_withWhichAndPile_8, eX1_withWhichAndPile_11, eX1_withWhichAndPile_12, eX1_withWhichAndPile_12N, eX1_withWhichAndPile_13, eX1_withWhichAndPile_15, eX1_withWhichAndPile_18, eX1_withWhichAndPile_19, eX1_withWhichAndPile_22, eX1_withWhichAndPile_23, eX1_withWhichAndPile_26, eX1_withWhichAndPile_29, eX1_withWhichAndPile_30, eX1_withWhichAndPile_34, eX1_withWhichAndPile_35, eX1_withWhichAndPile_38, eX1_withWhichAndPile_39, eX1_withWhichAndPile_39N, eX1_withWhichAndPile_40, eX1_withWhichAndPile_40N, eX1_withWhichAndPile_41, eX1_withWhichAndPile_44, eX1_withWhichAndPile_45, eX1_withWhichAndPile_46, eX1_withWhichAndPile_48, eX1_withWhichAndPile_51, eX1_withWhichAndPile_52, eX1_withWhichAndPile_55, eX1_withWhichAndPile_56, eX1_withWhichAndPile_59, eX1_withWhichAndPile_62, eX1_withWhichAndPile_63, rx, rn, rc, rl, hx, hn, hc, hl, d1, d2, d3, d4, d5, d6, d7, d8, d9, d10, d11, d12, rd_n, upw_n, ite_le, n45, n54, true_or, or_true, false_or, or_false, false_and, and_false, kx_l, kx_r, go_s, gl_s, gi_s, gb_s2, gb_s3, gq_s, wt_nil, wt_int, wt_long, wt_ref, wt_null, nl_int, nl_long, nl_ref, nl_null, nl_none, rf_n, rf_s, rf_st, tl_s, tl_n, g0, gS, ex1, nb_b, nb_0, nb_1, nf_i, nf_l, nf_ra, nf_ro, nf_na, nf_no, nf_b0, nf_z0, t45_4, t45_5, true_and, and_true, List.set_cons_zero, List.set_cons_succ, List.length_cons, List.length_nil, rd_s, upw_s, ne_eq, not_false_eq_true, Nat.zero_add, Nat.add_zero]
      | split
      | with_reducible intro _
      | omega
  | succ d ih =>
    intro i3 i5 k m z0 hm hk hs
    rw [eX1_withWhichAndPile_32]
    repeat' first
      | with_reducible assumption
      | with_reducible refine And.intro ?_ ?_
      | with_reducible exact vpi6 (by assumption) (by assumption)
      | with_reducible exact vpi8 (by assumption) (by assumption)
      | with_reducible exact ih _ _ _ _ (ic_pl (by assumption) (by assumption) (by decide)) (ic_sl (by assumption) (by assumption) (by decide)) (by first | assumption | omega) (by first | assumption | omega)
      | with_reducible exact vpi12 (by assumption) (by assumption) (by assumption)
      | with_reducible refine sX1_cardsThatAre (by first | assumption | exact CC.ext (by assumption) (by assumption)) ?_ (by first | assumption | decide) (by first | assumption | decide)
      | with_reducible refine sX1_with ?_
      | with_reducible refine sX1_pileCount (by first | assumption | exact CC.ext (by assumption) (by assumption)) ?_
      | with_reducible refine go_R (by first | assumption | exact hgc _ _ (by assumption) | exact hgl _ _ (by assumption) | exact isR.ext (by assumption) (by assumption) | exact isR.mono (by assumption) (by first | assumption | exact isR.ext (by assumption) (by assumption))) ?_
      | with_reducible exact vp08
      | with_reducible exact hQ _
      | simp only [eX1_withWhichAndPile_0, eX1_withWhichAndPile_1, eX1_withWhichAndPile_2, eX1_withWhichAndPile_3, eX1_withWhichAndPile_7, eX1_withWhichAndPile_8, eX1_withWhichAndPile_11, eX1_withWhichAndPile_12, eX1_withWhichAndPile_12N, eX1_withWhichAndPile_13, eX1_withWhichAndPile_15, eX1_withWhichAndPile_18, eX1_withWhichAndPile_19, eX1_withWhichAndPile_22, eX1_withWhichAndPile_23, eX1_withWhichAndPile_26, eX1_withWhichAndPile_29, eX1_withWhichAndPile_30, eX1_withWhichAndPile_34, eX1_withWhichAndPile_35, eX1_withWhichAndPile_38, eX1_withWhichAndPile_39, eX1_withWhichAndPile_39N, eX1_withWhichAndPile_40, eX1_withWhichAndPile_40N, eX1_withWhichAndPile_41, eX1_withWhichAndPile_44, eX1_withWhichAndPile_45, eX1_withWhichAndPile_46, eX1_withWhichAndPile_48, eX1_withWhichAndPile_51, eX1_withWhichAndPile_52, eX1_withWhichAndPile_55, eX1_withWhichAndPile_56, eX1_withWhichAndPile_59, eX1_withWhichAndPile_62, eX1_withWhichAndPile_63, rx, rn, rc, rl, hx, hn, hc, hl, d1, d2, d3, d4, d5, d6, d7, d8, d9, d10, d11, d12, rd_n, upw_n, ite_le, n45, n54, true_or, or_true, false_or, or_false, false_and, and_false, kx_l, kx_r, go_s, gl_s, gi_s, gb_s2, gb_s3, gq_s, wt_nil, wt_int, wt_long, wt_ref, wt_null, nl_int, nl_long, nl_ref, nl_null, nl_none, rf_n, rf_s, rf_st, tl_s, tl_n, g0, gS, ex1, nb_b, nb_0, nb_1, nf_i, nf_l, nf_ra, nf_ro, nf_na, nf_no, nf_b0, nf_z0, t45_4, t45_5, true_and, and_true, List.set_cons_zero, List.set_cons_succ, List.length_cons, List.length_nil, rd_s, upw_s, ne_eq, not_false_eq_true, Nat.zero_add, Nat.add_zero]
      | split
      | with_reducible intro _
      | omega
set_option maxHeartbeats 4000000 in
theorem lX1_withWhichAndPile_5 {a0 : Int64} (hC : CC g w0 x nA cA lA kn w) (hQ : ∀ v : Int64, Q (.inl (some (.long v))) w) : ∀ (n rf md : Int32) (f : Nat → Int64) (gc gl : Nat → Option Nat), RO5 g w x nA cA lA n rf kn md f gc gl → ∀ (d : Nat) (i3 : Int64) (i5 : Int32) (k m : Nat), ¬ i5 < 0 → (2 : Int32).toInt + 1 - i5.toInt ≤ (d : Int) → k ≤ 0 → m ≤ 0 → WP (MX1_withWhichAndPile g) Q (5, [some (.ref x), some (.long a0), none, some (.long i3), none, some (.int i5)], [], w, k, m) := by
  rintro n rf md f gc gl ⟨hx, hn, hc, hl, hgc, hgl, hn0, hn1, rx, rn, rc, rl, ⟨d1, d2, d3, d4, d5, d6⟩, ⟨d7, d8, d9, d10, d11, d12⟩⟩ d
  induction d with
  | zero =>
    intro i3 i5 k m z0 hm hk hs
    rw [eX1_withWhichAndPile_5]
    repeat' first
      | with_reducible assumption
      | with_reducible refine And.intro ?_ ?_
      | with_reducible exact vpi6 (by assumption) (by assumption)
      | with_reducible exact vpi8 (by assumption) (by assumption)
      | with_reducible exact (ic_zl (by assumption) (by assumption)).elim
      | with_reducible exact vpi12 (by assumption) (by assumption) (by assumption)
      | with_reducible refine sX1_cardsThatAre (by first | assumption | exact CC.ext (by assumption) (by assumption)) ?_ (by first | assumption | decide) (by first | assumption | decide)
      | with_reducible refine sX1_with ?_
      | with_reducible refine sX1_pileCount (by first | assumption | exact CC.ext (by assumption) (by assumption)) ?_
      | with_reducible refine go_R (by first | assumption | exact hgc _ _ (by assumption) | exact hgl _ _ (by assumption) | exact isR.ext (by assumption) (by assumption) | exact isR.mono (by assumption) (by first | assumption | exact isR.ext (by assumption) (by assumption))) ?_
      | with_reducible exact vp08
      | with_reducible exact lX1_withWhichAndPile_32 hC hQ _ _ _ _ _ _ ⟨hx, hn, hc, hl, hgc, hgl, hn0, hn1, rx, rn, rc, rl, ⟨d1, d2, d3, d4, d5, d6⟩, ⟨d7, d8, d9, d10, d11, d12⟩⟩ 70 _ _ _ _ (by first | decide | assumption) (by first | decide | exact n12 (by assumption) | exact n60 (by assumption)) (by first | decide | omega) (by first | decide | omega)
      | with_reducible exact hQ _
      | simp only [eX1_withWhichAndPile_0, eX1_withWhichAndPile_1, eX1_withWhichAndPile_2, eX1_withWhichAndPile_3, eX1_withWhichAndPile_7, eX1_withWhichAndPile_8, eX1_withWhichAndPile_11, eX1_withWhichAndPile_12, eX1_withWhichAndPile_12N, eX1_withWhichAndPile_13, eX1_withWhichAndPile_15, eX1_withWhichAndPile_18, eX1_withWhichAndPile_19, eX1_withWhichAndPile_22, eX1_withWhichAndPile_23, eX1_withWhichAndPile_26, eX1_withWhichAndPile_29, eX1_withWhichAndPile_30, eX1_withWhichAndPile_34, eX1_withWhichAndPile_35, eX1_withWhichAndPile_38, eX1_withWhichAndPile_39, eX1_withWhichAndPile_39N, eX1_withWhichAndPile_40, eX1_withWhichAndPile_40N, eX1_withWhichAndPile_41, eX1_withWhichAndPile_44, eX1_withWhichAndPile_45, eX1_withWhichAndPile_46, eX1_withWhichAndPile_48, eX1_withWhichAndPile_51, eX1_withWhichAndPile_52, eX1_withWhichAndPile_55, eX1_withWhichAndPile_56, eX1_withWhichAndPile_59, eX1_withWhichAndPile_62, eX1_withWhichAndPile_63, rx, rn, rc, rl, hx, hn, hc, hl, d1, d2, d3, d4, d5, d6, d7, d8, d9, d10, d11, d12, rd_n, upw_n, ite_le, n45, n54, true_or, or_true, false_or, or_false, false_and, and_false, kx_l, kx_r, go_s, gl_s, gi_s, gb_s2, gb_s3, gq_s, wt_nil, wt_int, wt_long, wt_ref, wt_null, nl_int, nl_long, nl_ref, nl_null, nl_none, rf_n, rf_s, rf_st, tl_s, tl_n, g0, gS, ex1, nb_b, nb_0, nb_1, nf_i, nf_l, nf_ra, nf_ro, nf_na, nf_no, nf_b0, nf_z0, t45_4, t45_5, true_and, and_true, List.set_cons_zero, List.set_cons_succ, List.length_cons, List.length_nil, rd_s, upw_s, ne_eq, not_false_eq_true, Nat.zero_add, Nat.add_zero]
      | split
      | with_reducible intro _
      | omega
  | succ d ih =>
    intro i3 i5 k m z0 hm hk hs
    rw [eX1_withWhichAndPile_5]
    repeat' first
      | with_reducible assumption
      | with_reducible refine And.intro ?_ ?_
      | with_reducible exact vpi6 (by assumption) (by assumption)
      | with_reducible exact vpi8 (by assumption) (by assumption)
      | with_reducible exact ih _ _ _ _ (ic_pl (by assumption) (by assumption) (by decide)) (ic_sl (by assumption) (by assumption) (by decide)) (by first | assumption | omega) (by first | assumption | omega)
      | with_reducible exact vpi12 (by assumption) (by assumption) (by assumption)
      | with_reducible refine sX1_cardsThatAre (by first | assumption | exact CC.ext (by assumption) (by assumption)) ?_ (by first | assumption | decide) (by first | assumption | decide)
      | with_reducible refine sX1_with ?_
      | with_reducible refine sX1_pileCount (by first | assumption | exact CC.ext (by assumption) (by assumption)) ?_
      | with_reducible refine go_R (by first | assumption | exact hgc _ _ (by assumption) | exact hgl _ _ (by assumption) | exact isR.ext (by assumption) (by assumption) | exact isR.mono (by assumption) (by first | assumption | exact isR.ext (by assumption) (by assumption))) ?_
      | with_reducible exact vp08
      | with_reducible exact lX1_withWhichAndPile_32 hC hQ _ _ _ _ _ _ ⟨hx, hn, hc, hl, hgc, hgl, hn0, hn1, rx, rn, rc, rl, ⟨d1, d2, d3, d4, d5, d6⟩, ⟨d7, d8, d9, d10, d11, d12⟩⟩ 70 _ _ _ _ (by first | decide | assumption) (by first | decide | exact n12 (by assumption) | exact n60 (by assumption)) (by first | decide | omega) (by first | decide | omega)
      | with_reducible exact hQ _
      | simp only [eX1_withWhichAndPile_0, eX1_withWhichAndPile_1, eX1_withWhichAndPile_2, eX1_withWhichAndPile_3, eX1_withWhichAndPile_7, eX1_withWhichAndPile_8, eX1_withWhichAndPile_11, eX1_withWhichAndPile_12, eX1_withWhichAndPile_12N, eX1_withWhichAndPile_13, eX1_withWhichAndPile_15, eX1_withWhichAndPile_18, eX1_withWhichAndPile_19, eX1_withWhichAndPile_22, eX1_withWhichAndPile_23, eX1_withWhichAndPile_26, eX1_withWhichAndPile_29, eX1_withWhichAndPile_30, eX1_withWhichAndPile_34, eX1_withWhichAndPile_35, eX1_withWhichAndPile_38, eX1_withWhichAndPile_39, eX1_withWhichAndPile_39N, eX1_withWhichAndPile_40, eX1_withWhichAndPile_40N, eX1_withWhichAndPile_41, eX1_withWhichAndPile_44, eX1_withWhichAndPile_45, eX1_withWhichAndPile_46, eX1_withWhichAndPile_48, eX1_withWhichAndPile_51, eX1_withWhichAndPile_52, eX1_withWhichAndPile_55, eX1_withWhichAndPile_56, eX1_withWhichAndPile_59, eX1_withWhichAndPile_62, eX1_withWhichAndPile_63, rx, rn, rc, rl, hx, hn, hc, hl, d1, d2, d3, d4, d5, d6, d7, d8, d9, d10, d11, d12, rd_n, upw_n, ite_le, n45, n54, true_or, or_true, false_or, or_false, false_and, and_false, kx_l, kx_r, go_s, gl_s, gi_s, gb_s2, gb_s3, gq_s, wt_nil, wt_int, wt_long, wt_ref, wt_null, nl_int, nl_long, nl_ref, nl_null, nl_none, rf_n, rf_s, rf_st, tl_s, tl_n, g0, gS, ex1, nb_b, nb_0, nb_1, nf_i, nf_l, nf_ra, nf_ro, nf_na, nf_no, nf_b0, nf_z0, t45_4, t45_5, true_and, and_true, List.set_cons_zero, List.set_cons_succ, List.length_cons, List.length_nil, rd_s, upw_s, ne_eq, not_false_eq_true, Nat.zero_add, Nat.add_zero]
      | split
      | with_reducible intro _
      | omega
set_option maxHeartbeats 4000000 in
theorem sX1_withWhichAndPile {a0 : Int64} (hC : CC g w0 x nA cA lA kn w) (hQ : ∀ v : Int64, Q (.inl (some (.long v))) w) : WP (MX1_withWhichAndPile g) Q (0, [some (.ref x), some (.long a0), none, none, none, none], [], w, 0, 0) := by
  obtain ⟨n, rf, md, f, gc, gl, hx, hn, hc, hl, hgc, hgl, hn0, hn1, rx, rn, rc, rl, ⟨d1, d2, d3, d4, d5, d6⟩, ⟨d7, d8, d9, d10, d11, d12⟩⟩ := hC.1.opn g
  repeat' first
    | with_reducible assumption
    | with_reducible refine And.intro ?_ ?_
    | with_reducible exact vpi6 (by assumption) (by assumption)
    | with_reducible exact vpi8 (by assumption) (by assumption)
    | with_reducible exact lX1_withWhichAndPile_32 hC hQ _ _ _ _ _ _ ⟨hx, hn, hc, hl, hgc, hgl, hn0, hn1, rx, rn, rc, rl, ⟨d1, d2, d3, d4, d5, d6⟩, ⟨d7, d8, d9, d10, d11, d12⟩⟩ 70 _ _ _ _ (by first | decide | assumption) (by first | decide | exact n12 (by assumption) | exact n60 (by assumption)) (by first | decide | omega) (by first | decide | omega)
    | with_reducible exact lX1_withWhichAndPile_5 hC hQ _ _ _ _ _ _ ⟨hx, hn, hc, hl, hgc, hgl, hn0, hn1, rx, rn, rc, rl, ⟨d1, d2, d3, d4, d5, d6⟩, ⟨d7, d8, d9, d10, d11, d12⟩⟩ 70 _ _ _ _ (by first | decide | assumption) (by first | decide | exact n12 (by assumption) | exact n60 (by assumption)) (by first | decide | omega) (by first | decide | omega)
    | with_reducible refine sX1_cardsThatAre (by first | assumption | exact CC.ext (by assumption) (by assumption)) ?_ (by first | assumption | decide) (by first | assumption | decide)
    | with_reducible refine sX1_with ?_
    | with_reducible refine sX1_pileCount (by first | assumption | exact CC.ext (by assumption) (by assumption)) ?_
    | with_reducible refine go_R (by first | assumption | exact hgc _ _ (by assumption) | exact hgl _ _ (by assumption) | exact isR.ext (by assumption) (by assumption) | exact isR.mono (by assumption) (by first | assumption | exact isR.ext (by assumption) (by assumption))) ?_
    | with_reducible exact hQ _
    | simp only [eX1_withWhichAndPile_0, eX1_withWhichAndPile_1, eX1_withWhichAndPile_2, eX1_withWhichAndPile_3, eX1_withWhichAndPile_7, eX1_withWhichAndPile_8, eX1_withWhichAndPile_11, eX1_withWhichAndPile_12, eX1_withWhichAndPile_12N, eX1_withWhichAndPile_13, eX1_withWhichAndPile_15, eX1_withWhichAndPile_18, eX1_withWhichAndPile_19, eX1_withWhichAndPile_22, eX1_withWhichAndPile_23, eX1_withWhichAndPile_26, eX1_withWhichAndPile_29, eX1_withWhichAndPile_30, eX1_withWhichAndPile_34, eX1_withWhichAndPile_35, eX1_withWhichAndPile_38, eX1_withWhichAndPile_39, eX1_withWhichAndPile_39N, eX1_withWhichAndPile_40, eX1_withWhichAndPile_40N, eX1_withWhichAndPile_41, eX1_withWhichAndPile_44, eX1_withWhichAndPile_45, eX1_withWhichAndPile_46, eX1_withWhichAndPile_48, eX1_withWhichAndPile_51, eX1_withWhichAndPile_52, eX1_withWhichAndPile_55, eX1_withWhichAndPile_56, eX1_withWhichAndPile_59, eX1_withWhichAndPile_62, eX1_withWhichAndPile_63, rx, rn, rc, rl, hx, hn, hc, hl, d1, d2, d3, d4, d5, d6, d7, d8, d9, d10, d11, d12, rd_n, upw_n, ite_le, n45, n54, true_or, or_true, false_or, or_false, false_and, and_false, kx_l, kx_r, go_s, gl_s, gi_s, gb_s2, gb_s3, gq_s, wt_nil, wt_int, wt_long, wt_ref, wt_null, nl_int, nl_long, nl_ref, nl_null, nl_none, rf_n, rf_s, rf_st, tl_s, tl_n, g0, gS, ex1, nb_b, nb_0, nb_1, nf_i, nf_l, nf_ra, nf_ro, nf_na, nf_no, nf_b0, nf_z0, t45_4, t45_5, true_and, and_true, List.set_cons_zero, List.set_cons_succ, List.length_cons, List.length_nil, rd_s, upw_s, ne_eq, not_false_eq_true, Nat.zero_add, Nat.add_zero]
    | split
    | with_reducible intro _
    | omega
end
end
