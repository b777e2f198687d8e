/-! 40.model10.lean.txt -/
section
abbrev dX3_whichNow__0_T : List (Nat × Instr × Nat) := [(0, .iconst 0, 1), (1, .istore_n 2, 1), (2, .iconst 0, 1), (3, .istore_n 3, 1), (4, .iload_n 3, 1), (5, .bipush 6, 2), (7, .if_icmp .ge 69, 3), (10, .aload_n 0, 1), (11, .iload_n 3, 1), (12, .invokevirtual 118, 3), (15, .ifCond .ne 55, 3), (18, .iload_n 1, 1), (19, .ifCond .eq 45, 3), (22, .iload_n 1, 1), (23, .iconst 1, 1), (24, .if_icmp .ne 23, 3), (27, .aload_n 0, 1), (28, .getfield 16, 3), (31, .iload_n 3, 1), (32, .invokevirtual 42, 3), (35, .checkcast 125, 3), (38, .invokestatic 130, 3), (41, .ifCond .eq 29, 3), (44, .goto 20, 3), (47, .aload_n 0, 1), (48, .getfield 16, 3), (51, .iload_n 3, 1), (52, .invokevirtual 42, 3), (55, .checkcast 125, 3), (58, .invokestatic 137, 3), (61, .ifCond .eq 9, 3), (64, .iload_n 2, 1), (65, .iconst 1, 1), (66, .iload_n 3, 1), (67, .ishl, 1), (68, .iadd, 1), (69, .istore_n 2, 1), (70, .iinc 3 1, 3), (73, .goto (-69), 3), (76, .iload_n 2, 1)]
theorem dX3_whichNow__0_D : dtc cX3_whichNow_ dX3_whichNow__0_T = true := by decide +kernel
theorem dX3_whichNow__77 : decode cX3_whichNow_ 77 = .ok (.ireturn, 1) := by decide +kernel
def MX3_whichNow_ (g : RO) : MT := ((RX3, cX3_whichNow_, 4, 5, 0, 0, false, some .int), [(16, 7, 2)], [], [], [], [], 0, [(118, 2, 2, 7, 4, (fun _ _ => 0), (fun _ _ => 0), yX3_isBare, spOf (MX3_isBare g)), (42, 2, 2, 3, 3, (fun _ _ => 0), (fun _ _ => 0), yJx4a65c_get_915e3, spOf (MJx4a65c_get_915e3 g)), (130, 0, 1, 0, 1, (fun _ _ => 0), (fun _ _ => 0), yX3_fixed, spOf (MX3_fixed g)), (137, 0, 1, 0, 1, (fun _ _ => 0), (fun _ _ => 0), yX3_small, spOf (MX3_small g))], [], [(125, 0)], 0, [], [], g)
section
variable {g : RO} {Q : Ot → Hw → Prop} {st : List Value} {w : Hw} {k n p q : Nat} {a b : Int32} {x y : Int64} {u v : Value} {l0 l1 l2 l3 : Option Value}
theorem eX3_whichNow__0 : WP (MX3_whichNow_ g) Q (0, [l0, l1, l2, l3], st, w, k, n) = WP (MX3_whichNow_ g) Q (1, [l0, l1, l2, l3], .int 0 :: st, w, k, n) := ic_0 rfl (dt_q dX3_whichNow__0_D 0 rfl)
theorem eX3_whichNow__1 : WP (MX3_whichNow_ g) Q (1, [l0, l1, l2, l3], .int a :: st, w, k, n) = WP (MX3_whichNow_ g) Q (2, [l0, nl l1, some (.int a), l3], st, w, k, n) := isn_e rfl (dt_q dX3_whichNow__0_D 1 rfl) rfl rfl
theorem eX3_whichNow__2 : WP (MX3_whichNow_ g) Q (2, [l0, l1, l2, l3], st, w, k, n) = WP (MX3_whichNow_ g) Q (3, [l0, l1, l2, l3], .int 0 :: st, w, k, n) := ic_0 rfl (dt_q dX3_whichNow__0_D 2 rfl)
theorem eX3_whichNow__3 : WP (MX3_whichNow_ g) Q (3, [l0, l1, l2, l3], .int a :: st, w, k, n) = WP (MX3_whichNow_ g) Q (4, [l0, l1, nl l2, some (.int a)], st, w, k, n) := isn_e rfl (dt_q dX3_whichNow__0_D 3 rfl) rfl rfl
theorem eX3_whichNow__4 : WP (MX3_whichNow_ g) Q (4, [l0, l1, l2, some (.int a)], st, w, k, n) = WP (MX3_whichNow_ g) Q (5, [l0, l1, l2, some (.int a)], .int a :: st, w, k, n) := iln_e rfl (dt_q dX3_whichNow__0_D 4 rfl) rfl
theorem eX3_whichNow__5 : WP (MX3_whichNow_ g) Q (5, [l0, l1, l2, l3], st, w, k, n) = WP (MX3_whichNow_ g) Q (7, [l0, l1, l2, l3], .int 6 :: st, w, k, n) := bipush_e rfl (dt_q dX3_whichNow__0_D 5 rfl) (by decide)
theorem eX3_whichNow__7 : WP (MX3_whichNow_ g) Q (7, [l0, l1, l2, l3], .int b :: .int a :: st, w, k, n) = if b ≤ a then WP (MX3_whichNow_ g) Q (76, [l0, l1, l2, l3], st, w, k, n) else WP (MX3_whichNow_ g) Q (10, [l0, l1, l2, l3], st, w, k, n) := icm_e (b ≤ a) rfl (dt_q dX3_whichNow__0_D 6 rfl) rfl (by decide)
theorem eX3_whichNow__10 : WP (MX3_whichNow_ g) Q (10, [some (.ref p), l1, l2, l3], st, w, k, n) = WP (MX3_whichNow_ g) Q (11, [some (.ref p), l1, l2, l3], .ref p :: st, w, k, n) := alnR_e rfl (dt_q dX3_whichNow__0_D 7 rfl) rfl
theorem eX3_whichNow__10N : WP (MX3_whichNow_ g) Q (10, [some .null, l1, l2, l3], st, w, k, n) = WP (MX3_whichNow_ g) Q (11, [some .null, l1, l2, l3], .null :: st, w, k, n) := alnN_e rfl (dt_q dX3_whichNow__0_D 7 rfl) rfl
theorem eX3_whichNow__11 : WP (MX3_whichNow_ g) Q (11, [l0, l1, l2, some (.int a)], st, w, k, n) = WP (MX3_whichNow_ g) Q (12, [l0, l1, l2, some (.int a)], .int a :: st, w, k, n) := iln_e rfl (dt_q dX3_whichNow__0_D 8 rfl) rfl
theorem eX3_whichNow__12 {z0 : Int32} : WP (MX3_whichNow_ g) Q (12, [l0, l1, l2, l3], .int z0 :: .ref p :: st, w, k, n) = (go (rd g w p) 7 (fun _ => True) ∧ wt st ≤ 8 ∧ k + 0 ≤ 0 ∧ n + 0 ≤ 0 ∧ WP (MX3_isBare g) (kx (fun v w' => WP (MX3_whichNow_ g) Q (15, [l0, l1, l2, l3], v.toList ++ st, w', k + 0, n + 0)) (fun E w' => Q (.inr E) w')) (0, [some (.ref p), some (.int z0)], [], w, 0, 0)) := csV0 (M := (MX3_whichNow_ g)) (mc := (fun _ _ => 0)) (ms := (fun _ _ => 0)) (As := [.int z0]) (rest := st) (MX3_isBare g) rfl rfl rfl (dt_q dX3_whichNow__0_D 9 rfl) rfl rfl rfl rfl rfl rfl
theorem eX3_whichNow__15 : WP (MX3_whichNow_ g) Q (15, [l0, l1, l2, l3], .int a :: st, w, k, n) = if a = 0 then WP (MX3_whichNow_ g) Q (18, [l0, l1, l2, l3], st, w, k, n) else WP (MX3_whichNow_ g) Q (70, [l0, l1, l2, l3], st, w, k, n) := ifcn_e (a = 0) rfl (dt_q dX3_whichNow__0_D 10 rfl) rfl (by decide)
theorem eX3_whichNow__18 : WP (MX3_whichNow_ g) Q (18, [l0, some (.int a), l2, l3], st, w, k, n) = WP (MX3_whichNow_ g) Q (19, [l0, some (.int a), l2, l3], .int a :: st, w, k, n) := iln_e rfl (dt_q dX3_whichNow__0_D 11 rfl) rfl
theorem eX3_whichNow__19 : WP (MX3_whichNow_ g) Q (19, [l0, l1, l2, l3], .int a :: st, w, k, n) = if a = 0 then WP (MX3_whichNow_ g) Q (64, [l0, l1, l2, l3], st, w, k, n) else WP (MX3_whichNow_ g) Q (22, [l0, l1, l2, l3], st, w, k, n) := ifc_e (a = 0) rfl (dt_q dX3_whichNow__0_D 12 rfl) rfl (by decide)
theorem eX3_whichNow__22 : WP (MX3_whichNow_ g) Q (22, [l0, some (.int a), l2, l3], st, w, k, n) = WP (MX3_whichNow_ g) Q (23, [l0, some (.int a), l2, l3], .int a :: st, w, k, n) := iln_e rfl (dt_q dX3_whichNow__0_D 13 rfl) rfl
theorem eX3_whichNow__23 : WP (MX3_whichNow_ g) Q (23, [l0, l1, l2, l3], st, w, k, n) = WP (MX3_whichNow_ g) Q (24, [l0, l1, l2, l3], .int 1 :: st, w, k, n) := ic_1 rfl (dt_q dX3_whichNow__0_D 14 rfl)
theorem eX3_whichNow__24 : WP (MX3_whichNow_ g) Q (24, [l0, l1, l2, l3], .int b :: .int a :: st, w, k, n) = if a = b then WP (MX3_whichNow_ g) Q (27, [l0, l1, l2, l3], st, w, k, n) else WP (MX3_whichNow_ g) Q (47, [l0, l1, l2, l3], st, w, k, n) := icmn_e (a = b) rfl (dt_q dX3_whichNow__0_D 15 rfl) rfl (by decide)
theorem eX3_whichNow__27 : WP (MX3_whichNow_ g) Q (27, [some (.ref p), l1, l2, l3], st, w, k, n) = WP (MX3_whichNow_ g) Q (28, [some (.ref p), l1, l2, l3], .ref p :: st, w, k, n) := alnR_e rfl (dt_q dX3_whichNow__0_D 16 rfl) rfl
theorem eX3_whichNow__27N : WP (MX3_whichNow_ g) Q (27, [some .null, l1, l2, l3], st, w, k, n) = WP (MX3_whichNow_ g) Q (28, [some .null, l1, l2, l3], .null :: st, w, k, n) := alnN_e rfl (dt_q dX3_whichNow__0_D 16 rfl) rfl
theorem eX3_whichNow__28 : WP (MX3_whichNow_ g) Q (28, [l0, l1, l2, l3], .ref p :: st, w, k, n) = go (rd g w p) 7 fun fs => ∃ v, fs[2]? = some v ∧ WP (MX3_whichNow_ g) Q (31, [l0, l1, l2, l3], v :: st, w, k, n) := get_e rfl (dt_q dX3_whichNow__0_D 17 rfl) rfl
theorem eX3_whichNow__31 : WP (MX3_whichNow_ g) Q (31, [l0, l1, l2, some (.int a)], st, w, k, n) = WP (MX3_whichNow_ g) Q (32, [l0, l1, l2, some (.int a)], .int a :: st, w, k, n) := iln_e rfl (dt_q dX3_whichNow__0_D 18 rfl) rfl
theorem eX3_whichNow__32 {z0 : Int32} : WP (MX3_whichNow_ g) Q (32, [l0, l1, l2, l3], .int z0 :: .ref p :: st, w, k, n) = (go (rd g w p) 3 (fun _ => True) ∧ wt st ≤ 8 ∧ k + 0 ≤ 0 ∧ n + 0 ≤ 0 ∧ WP (MJx4a65c_get_915e3 g) (kx (fun v w' => WP (MX3_whichNow_ g) Q (35, [l0, l1, l2, l3], v.toList ++ st, w', k + 0, n + 0)) (fun E w' => Q (.inr E) w')) (0, [some (.ref p), some (.int z0)], [], w, 0, 0)) := csV0 (M := (MX3_whichNow_ g)) (mc := (fun _ _ => 0)) (ms := (fun _ _ => 0)) (As := [.int z0]) (rest := st) (MJx4a65c_get_915e3 g) rfl rfl rfl (dt_q dX3_whichNow__0_D 19 rfl) rfl rfl rfl rfl rfl rfl
theorem eX3_whichNow__35N : WP (MX3_whichNow_ g) Q (35, [l0, l1, l2, l3], .null :: st, w, k, n) = WP (MX3_whichNow_ g) Q (38, [l0, l1, l2, l3], .null :: st, w, k, n) := castN_e rfl (dt_q dX3_whichNow__0_D 20 rfl)
theorem eX3_whichNow__35R : WP (MX3_whichNow_ g) Q (35, [l0, l1, l2, l3], .ref p :: st, w, k, n) = ((∃ x, w p = some (.inl (0, x))) ∧ WP (MX3_whichNow_ g) Q (38, [l0, l1, l2, l3], .ref p :: st, w, k, n)) := castR_e rfl (dt_q dX3_whichNow__0_D 20 rfl) rfl
theorem eX3_whichNow__38R {z0 : Nat} : WP (MX3_whichNow_ g) Q (38, [l0, l1, l2, l3], .ref z0 :: st, w, k, n) = (wt st ≤ 8 ∧ k + 0 ≤ 0 ∧ n + 0 ≤ 0 ∧ WP (MX3_fixed g) (kx (fun v w' => WP (MX3_whichNow_ g) Q (41, [l0, l1, l2, l3], v.toList ++ st, w', k + 0, n + 0)) (fun E w' => Q (.inr E) w')) (0, [some (.ref z0)], [], w, 0, 0)) := csS0 (M := (MX3_whichNow_ g)) (mc := (fun _ _ => 0)) (ms := (fun _ _ => 0)) (As := [.ref z0]) (rest := st) (MX3_fixed g) rfl rfl rfl (dt_q dX3_whichNow__0_D 21 rfl) rfl rfl rfl rfl rfl rfl rfl
theorem eX3_whichNow__38N  : WP (MX3_whichNow_ g) Q (38, [l0, l1, l2, l3], .null :: st, w, k, n) = (wt st ≤ 8 ∧ k + 0 ≤ 0 ∧ n + 0 ≤ 0 ∧ WP (MX3_fixed g) (kx (fun v w' => WP (MX3_whichNow_ g) Q (41, [l0, l1, l2, l3], v.toList ++ st, w', k + 0, n + 0)) (fun E w' => Q (.inr E) w')) (0, [some .null], [], w, 0, 0)) := csS0 (M := (MX3_whichNow_ g)) (mc := (fun _ _ => 0)) (ms := (fun _ _ => 0)) (As := [.null]) (rest := st) (MX3_fixed g) rfl rfl rfl (dt_q dX3_whichNow__0_D 21 rfl) rfl rfl rfl rfl rfl rfl rfl
theorem eX3_whichNow__41 : WP (MX3_whichNow_ g) Q (41, [l0, l1, l2, l3], .int a :: st, w, k, n) = if a = 0 then WP (MX3_whichNow_ g) Q (70, [l0, l1, l2, l3], st, w, k, n) else WP (MX3_whichNow_ g) Q (44, [l0, l1, l2, l3], st, w, k, n) := ifc_e (a = 0) rfl (dt_q dX3_whichNow__0_D 22 rfl) rfl (by decide)
theorem eX3_whichNow__44 : WP (MX3_whichNow_ g) Q (44, [l0, l1, l2, l3], st, w, k, n) = WP (MX3_whichNow_ g) Q (64, [l0, l1, l2, l3], st, w, k, n) := goto_e rfl (dt_q dX3_whichNow__0_D 23 rfl) (by decide)
theorem eX3_whichNow__47 : WP (MX3_whichNow_ g) Q (47, [some (.ref p), l1, l2, l3], st, w, k, n) = WP (MX3_whichNow_ g) Q (48, [some (.ref p), l1, l2, l3], .ref p :: st, w, k, n) := alnR_e rfl (dt_q dX3_whichNow__0_D 24 rfl) rfl
theorem eX3_whichNow__47N : WP (MX3_whichNow_ g) Q (47, [some .null, l1, l2, l3], st, w, k, n) = WP (MX3_whichNow_ g) Q (48, [some .null, l1, l2, l3], .null :: st, w, k, n) := alnN_e rfl (dt_q dX3_whichNow__0_D 24 rfl) rfl
theorem eX3_whichNow__48 : WP (MX3_whichNow_ g) Q (48, [l0, l1, l2, l3], .ref p :: st, w, k, n) = go (rd g w p) 7 fun fs => ∃ v, fs[2]? = some v ∧ WP (MX3_whichNow_ g) Q (51, [l0, l1, l2, l3], v :: st, w, k, n) := get_e rfl (dt_q dX3_whichNow__0_D 25 rfl) rfl
theorem eX3_whichNow__51 : WP (MX3_whichNow_ g) Q (51, [l0, l1, l2, some (.int a)], st, w, k, n) = WP (MX3_whichNow_ g) Q (52, [l0, l1, l2, some (.int a)], .int a :: st, w, k, n) := iln_e rfl (dt_q dX3_whichNow__0_D 26 rfl) rfl
theorem eX3_whichNow__52 {z0 : Int32} : WP (MX3_whichNow_ g) Q (52, [l0, l1, l2, l3], .int z0 :: .ref p :: st, w, k, n) = (go (rd g w p) 3 (fun _ => True) ∧ wt st ≤ 8 ∧ k + 0 ≤ 0 ∧ n + 0 ≤ 0 ∧ WP (MJx4a65c_get_915e3 g) (kx (fun v w' => WP (MX3_whichNow_ g) Q (55, [l0, l1, l2, l3], v.toList ++ st, w', k + 0, n + 0)) (fun E w' => Q (.inr E) w')) (0, [some (.ref p), some (.int z0)], [], w, 0, 0)) := csV0 (M := (MX3_whichNow_ g)) (mc := (fun _ _ => 0)) (ms := (fun _ _ => 0)) (As := [.int z0]) (rest := st) (MJx4a65c_get_915e3 g) rfl rfl rfl (dt_q dX3_whichNow__0_D 27 rfl) rfl rfl rfl rfl rfl rfl
theorem eX3_whichNow__55N : WP (MX3_whichNow_ g) Q (55, [l0, l1, l2, l3], .null :: st, w, k, n) = WP (MX3_whichNow_ g) Q (58, [l0, l1, l2, l3], .null :: st, w, k, n) := castN_e rfl (dt_q dX3_whichNow__0_D 28 rfl)
theorem eX3_whichNow__55R : WP (MX3_whichNow_ g) Q (55, [l0, l1, l2, l3], .ref p :: st, w, k, n) = ((∃ x, w p = some (.inl (0, x))) ∧ WP (MX3_whichNow_ g) Q (58, [l0, l1, l2, l3], .ref p :: st, w, k, n)) := castR_e rfl (dt_q dX3_whichNow__0_D 28 rfl) rfl
theorem eX3_whichNow__58R {z0 : Nat} : WP (MX3_whichNow_ g) Q (58, [l0, l1, l2, l3], .ref z0 :: st, w, k, n) = (wt st ≤ 8 ∧ k + 0 ≤ 0 ∧ n + 0 ≤ 0 ∧ WP (MX3_small g) (kx (fun v w' => WP (MX3_whichNow_ g) Q (61, [l0, l1, l2, l3], v.toList ++ st, w', k + 0, n + 0)) (fun E w' => Q (.inr E) w')) (0, [some (.ref z0)], [], w, 0, 0)) := csS0 (M := (MX3_whichNow_ g)) (mc := (fun _ _ => 0)) (ms := (fun _ _ => 0)) (As := [.ref z0]) (rest := st) (MX3_small g) rfl rfl rfl (dt_q dX3_whichNow__0_D 29 rfl) rfl rfl rfl rfl rfl rfl rfl
theorem eX3_whichNow__58N  : WP (MX3_whichNow_ g) Q (58, [l0, l1, l2, l3], .null :: st, w, k, n) = (wt st ≤ 8 ∧ k + 0 ≤ 0 ∧ n + 0 ≤ 0 ∧ WP (MX3_small g) (kx (fun v w' => WP (MX3_whichNow_ g) Q (61, [l0, l1, l2, l3], v.toList ++ st, w', k + 0, n + 0)) (fun E w' => Q (.inr E) w')) (0, [some .null], [], w, 0, 0)) := csS0 (M := (MX3_whichNow_ g)) (mc := (fun _ _ => 0)) (ms := (fun _ _ => 0)) (As := [.null]) (rest := st) (MX3_small g) rfl rfl rfl (dt_q dX3_whichNow__0_D 29 rfl) rfl rfl rfl rfl rfl rfl rfl
theorem eX3_whichNow__61 : WP (MX3_whichNow_ g) Q (61, [l0, l1, l2, l3], .int a :: st, w, k, n) = if a = 0 then WP (MX3_whichNow_ g) Q (70, [l0, l1, l2, l3], st, w, k, n) else WP (MX3_whichNow_ g) Q (64, [l0, l1, l2, l3], st, w, k, n) := ifc_e (a = 0) rfl (dt_q dX3_whichNow__0_D 30 rfl) rfl (by decide)
theorem eX3_whichNow__64 : WP (MX3_whichNow_ g) Q (64, [l0, l1, some (.int a), l3], st, w, k, n) = WP (MX3_whichNow_ g) Q (65, [l0, l1, some (.int a), l3], .int a :: st, w, k, n) := iln_e rfl (dt_q dX3_whichNow__0_D 31 rfl) rfl
theorem eX3_whichNow__65 : WP (MX3_whichNow_ g) Q (65, [l0, l1, l2, l3], st, w, k, n) = WP (MX3_whichNow_ g) Q (66, [l0, l1, l2, l3], .int 1 :: st, w, k, n) := ic_1 rfl (dt_q dX3_whichNow__0_D 32 rfl)
theorem eX3_whichNow__66 : WP (MX3_whichNow_ g) Q (66, [l0, l1, l2, some (.int a)], st, w, k, n) = WP (MX3_whichNow_ g) Q (67, [l0, l1, l2, some (.int a)], .int a :: st, w, k, n) := iln_e rfl (dt_q dX3_whichNow__0_D 33 rfl) rfl
theorem eX3_whichNow__67 : WP (MX3_whichNow_ g) Q (67, [l0, l1, l2, l3], .int b :: .int a :: st, w, k, n) = WP (MX3_whichNow_ g) Q (68, [l0, l1, l2, l3], .int (a <<< (b &&& 31)) :: st, w, k, n) := ishl_e rfl (dt_q dX3_whichNow__0_D 34 rfl)
theorem eX3_whichNow__68 : WP (MX3_whichNow_ g) Q (68, [l0, l1, l2, l3], .int b :: .int a :: st, w, k, n) = WP (MX3_whichNow_ g) Q (69, [l0, l1, l2, l3], .int (a + b) :: st, w, k, n) := iadd_e rfl (dt_q dX3_whichNow__0_D 35 rfl)
theorem eX3_whichNow__69 : WP (MX3_whichNow_ g) Q (69, [l0, l1, l2, l3], .int a :: st, w, k, n) = WP (MX3_whichNow_ g) Q (70, [l0, nl l1, some (.int a), l3], st, w, k, n) := isn_e rfl (dt_q dX3_whichNow__0_D 36 rfl) rfl rfl
theorem eX3_whichNow__70 : WP (MX3_whichNow_ g) Q (70, [l0, l1, l2, some (.int a)], st, w, k, n) = WP (MX3_whichNow_ g) Q (73, [l0, l1, nl l2, some (.int (a + 1))], st, w, k, n) := Eq.trans (iinc_e (M := (MX3_whichNow_ g)) (L := [l0, l1, l2, some (.int a)]) (d := 1) rfl (dt_q dX3_whichNow__0_D 37 rfl) (by decide) rfl) rfl
theorem eX3_whichNow__73 : WP (MX3_whichNow_ g) Q (73, [l0, l1, l2, l3], st, w, k, n) = WP (MX3_whichNow_ g) Q (4, [l0, l1, l2, l3], st, w, k, n) := goto_e rfl (dt_q dX3_whichNow__0_D 38 rfl) (by decide)
theorem eX3_whichNow__76 : WP (MX3_whichNow_ g) Q (76, [l0, l1, some (.int a), l3], st, w, k, n) = WP (MX3_whichNow_ g) Q (77, [l0, l1, some (.int a), l3], .int a :: st, w, k, n) := iln_e rfl (dt_q dX3_whichNow__0_D 39 rfl) rfl
set_option maxRecDepth 20000 in
theorem eX3_whichNow__77 : WP (MX3_whichNow_ g) Q (77, [l0, l1, l2, l3], [.int a], w, k, n) = (k ≤ 0 ∧ n ≤ 0 ∧ Q (.inl (some (.int a))) w) := iretI_e rfl dX3_whichNow__77 rfl
end
theorem vMX3_whichNow_ {l : Launch} (hl : l.stackTraces = false) (G : GT) : vM l G (MX3_whichNow_ (gg G)) := vM_k RX3 cX3_whichNow_ rfl rfl (all_c (vF_RX3_16) (all_n)) all_n all_n all_n all_n (fun h => absurd rfl h) (all_c (kc_53 hl wk_1372) (all_c (kc_37 hl wk_1376) (all_c (kc_56 hl wk_1392) (all_c (kc_58 hl wk_1427) (all_n))))) all_n (all_c (⟨.long, rfl, (fun C h => by cases h), wk_1380⟩) (all_n)) (fun h => absurd rfl h) rfl all_n
theorem okX3_whichNow_ {l : Launch} (hl : l.stackTraces = false) {G : GT} : ∀ (args : List Value) (w : Hw) (S : Ot → Hw → Prop), spOf (MX3_whichNow_ (gg G)) args w S → CX l G yX3_whichNow_ (.code yX3_whichNow_ cX3_whichNow_ 4 (some .int)) 5 0 0 args w S := CX_sp (M := MX3_whichNow_ (gg G)) (y := yX3_whichNow_) hl (by decide) rfl (vMX3_whichNow_ hl G) (fun h => by cases h) rfl
abbrev dX3_which_0_T : List (Nat × Instr × Nat) := [(0, .aload_n 0, 1), (1, .iload_n 1, 1), (2, .iconst 0, 1), (3, .iconst 2, 1), (4, .invokestatic 38, 3), (7, .ifCond .ne 7, 3), (10, .iconst 1, 1), (11, .goto 4, 3), (14, .iconst 0, 1), (15, .iconst 1, 1), (16, .invokevirtual 54, 3), (19, .ifCond .eq 7, 3), (22, .iconst 0, 1), (23, .goto 8, 3), (26, .aload_n 0, 1), (27, .iload_n 1, 1), (28, .invokevirtual 168, 3), (31, .ireturn, 1)]
theorem dX3_which_0_D : dtc cX3_which dX3_which_0_T = true := by decide +kernel
def MX3_which (g : RO) : MT := ((RX3, cX3_which, 2, 6, 0, 0, false, some .int), [], [], [], [], [], 0, [(38, 0, 3, 0, 1, (fun _ _ => 0), (fun _ _ => 0), yX3_isIn, spOf (MX3_isIn g)), (54, 2, 3, 7, 2, (fun _ _ => 0), (fun _ _ => 0), yX3_start, spOf (MX3_start g)), (168, 2, 2, 7, 5, (fun _ _ => 0), (fun _ _ => 0), yX3_whichNow_, spOf (MX3_whichNow_ g))], [], [], 0, [], [], g)
section
variable {g : RO} {Q : Ot → Hw → Prop} {st : List Value} {w : Hw} {k n p q : Nat} {a b : Int32} {x y : Int64} {u v : Value} {l0 l1 : Option Value}
theorem eX3_which_0 : WP (MX3_which g) Q (0, [some (.ref p), l1], st, w, k, n) = WP (MX3_which g) Q (1, [some (.ref p), l1], .ref p :: st, w, k, n) := alnR_e rfl (dt_q dX3_which_0_D 0 rfl) rfl
theorem eX3_which_0N : WP (MX3_which g) Q (0, [some .null, l1], st, w, k, n) = WP (MX3_which g) Q (1, [some .null, l1], .null :: st, w, k, n) := alnN_e rfl (dt_q dX3_which_0_D 0 rfl) rfl
theorem eX3_which_1 : WP (MX3_which g) Q (1, [l0, some (.int a)], st, w, k, n) = WP (MX3_which g) Q (2, [l0, some (.int a)], .int a :: st, w, k, n) := iln_e rfl (dt_q dX3_which_0_D 1 rfl) rfl
theorem eX3_which_2 : WP (MX3_which g) Q (2, [l0, l1], st, w, k, n) = WP (MX3_which g) Q (3, [l0, l1], .int 0 :: st, w, k, n) := ic_0 rfl (dt_q dX3_which_0_D 2 rfl)
theorem eX3_which_3 : WP (MX3_which g) Q (3, [l0, l1], st, w, k, n) = WP (MX3_which g) Q (4, [l0, l1], .int 2 :: st, w, k, n) := ic_2 rfl (dt_q dX3_which_0_D 3 rfl)
theorem eX3_which_4 {z0 : Int32} {z1 : Int32} {z2 : Int32} : WP (MX3_which g) Q (4, [l0, l1], .int z2 :: .int z1 :: .int z0 :: st, w, k, n) = (wt st ≤ 8 ∧ k + 0 ≤ 0 ∧ n + 0 ≤ 0 ∧ WP (MX3_isIn g) (kx (fun v w' => WP (MX3_which g) Q (7, [l0, l1], v.toList ++ st, w', k + 0, n + 0)) (fun E w' => Q (.inr E) w')) (0, [some (.int z0), some (.int z1), some (.int z2)], [], w, 0, 0)) := csS0 (M := (MX3_which g)) (mc := (fun _ _ => 0)) (ms := (fun _ _ => 0)) (As := [.int z0, .int z1, .int z2]) (rest := st) (MX3_isIn g) rfl rfl rfl (dt_q dX3_which_0_D 4 rfl) rfl rfl rfl rfl rfl rfl rfl
theorem eX3_which_7 : WP (MX3_which g) Q (7, [l0, l1], .int a :: st, w, k, n) = if a = 0 then WP (MX3_which g) Q (10, [l0, l1], st, w, k, n) else WP (MX3_which g) Q (14, [l0, l1], st, w, k, n) := ifcn_e (a = 0) rfl (dt_q dX3_which_0_D 5 rfl) rfl (by decide)
theorem eX3_which_10 : WP (MX3_which g) Q (10, [l0, l1], st, w, k, n) = WP (MX3_which g) Q (11, [l0, l1], .int 1 :: st, w, k, n) := ic_1 rfl (dt_q dX3_which_0_D 6 rfl)
theorem eX3_which_11 : WP (MX3_which g) Q (11, [l0, l1], st, w, k, n) = WP (MX3_which g) Q (15, [l0, l1], st, w, k, n) := goto_e rfl (dt_q dX3_which_0_D 7 rfl) (by decide)
theorem eX3_which_14 : WP (MX3_which g) Q (14, [l0, l1], st, w, k, n) = WP (MX3_which g) Q (15, [l0, l1], .int 0 :: st, w, k, n) := ic_0 rfl (dt_q dX3_which_0_D 8 rfl)
theorem eX3_which_15 : WP (MX3_which g) Q (15, [l0, l1], st, w, k, n) = WP (MX3_which g) Q (16, [l0, l1], .int 1 :: st, w, k, n) := ic_1 rfl (dt_q dX3_which_0_D 9 rfl)
theorem eX3_which_16 {z0 : Int32} {z1 : Int32} : WP (MX3_which g) Q (16, [l0, l1], .int z1 :: .int z0 :: .ref p :: st, w, k, n) = (go (rd g w p) 7 (fun _ => True) ∧ wt st ≤ 8 ∧ k + 0 ≤ 0 ∧ n + 0 ≤ 0 ∧ WP (MX3_start g) (kx (fun v w' => WP (MX3_which g) Q (19, [l0, l1], v.toList ++ st, w', k + 0, n + 0)) (fun E w' => Q (.inr E) w')) (0, [some (.ref p), some (.int z0), some (.int z1)], [], w, 0, 0)) := csV0 (M := (MX3_which g)) (mc := (fun _ _ => 0)) (ms := (fun _ _ => 0)) (As := [.int z0, .int z1]) (rest := st) (MX3_start g) rfl rfl rfl (dt_q dX3_which_0_D 10 rfl) rfl rfl rfl rfl rfl rfl
theorem eX3_which_19 : WP (MX3_which g) Q (19, [l0, l1], .int a :: st, w, k, n) = if a = 0 then WP (MX3_which g) Q (26, [l0, l1], st, w, k, n) else WP (MX3_which g) Q (22, [l0, l1], st, w, k, n) := ifc_e (a = 0) rfl (dt_q dX3_which_0_D 11 rfl) rfl (by decide)
theorem eX3_which_22 : WP (MX3_which g) Q (22, [l0, l1], st, w, k, n) = WP (MX3_which g) Q (23, [l0, l1], .int 0 :: st, w, k, n) := ic_0 rfl (dt_q dX3_which_0_D 12 rfl)
theorem eX3_which_23 : WP (MX3_which g) Q (23, [l0, l1], st, w, k, n) = WP (MX3_which g) Q (31, [l0, l1], st, w, k, n) := goto_e rfl (dt_q dX3_which_0_D 13 rfl) (by decide)
theorem eX3_which_26 : WP (MX3_which g) Q (26, [some (.ref p), l1], st, w, k, n) = WP (MX3_which g) Q (27, [some (.ref p), l1], .ref p :: st, w, k, n) := alnR_e rfl (dt_q dX3_which_0_D 14 rfl) rfl
theorem eX3_which_26N : WP (MX3_which g) Q (26, [some .null, l1], st, w, k, n) = WP (MX3_which g) Q (27, [some .null, l1], .null :: st, w, k, n) := alnN_e rfl (dt_q dX3_which_0_D 14 rfl) rfl
theorem eX3_which_27 : WP (MX3_which g) Q (27, [l0, some (.int a)], st, w, k, n) = WP (MX3_which g) Q (28, [l0, some (.int a)], .int a :: st, w, k, n) := iln_e rfl (dt_q dX3_which_0_D 15 rfl) rfl
theorem eX3_which_28 {z0 : Int32} : WP (MX3_which g) Q (28, [l0, l1], .int z0 :: .ref p :: st, w, k, n) = (go (rd g w p) 7 (fun _ => True) ∧ wt st ≤ 8 ∧ k + 0 ≤ 0 ∧ n + 0 ≤ 0 ∧ WP (MX3_whichNow_ g) (kx (fun v w' => WP (MX3_which g) Q (31, [l0, l1], v.toList ++ st, w', k + 0, n + 0)) (fun E w' => Q (.inr E) w')) (0, [some (.ref p), some (.int z0), none, none], [], w, 0, 0)) := csV0 (M := (MX3_which g)) (mc := (fun _ _ => 0)) (ms := (fun _ _ => 0)) (As := [.int z0]) (rest := st) (MX3_whichNow_ g) rfl rfl rfl (dt_q dX3_which_0_D 16 rfl) rfl rfl rfl rfl rfl rfl
theorem eX3_which_31 : WP (MX3_which g) Q (31, [l0, l1], [.int a], w, k, n) = (k ≤ 0 ∧ n ≤ 0 ∧ Q (.inl (some (.int a))) w) := iretI_e rfl (dt_q dX3_which_0_D 17 rfl) rfl
end
theorem wk_1499 : (.code yX3_whichNow_ cX3_whichNow_ 4 (some .int) : Jvm.Cond) ∈ WS := WS_t7 1 rfl rfl
theorem wk_1496 : (.methodLink RX3 168 yX3_whichNow_ : Jvm.Cond) ∈ WS := WS_t6 238 rfl rfl
theorem wk_1498 : (.instanceMethod yX3_whichNow_ : Jvm.Cond) ∈ WS := WS_t7 0 rfl rfl
theorem wk_48 : (.selects RX3 yX3_whichNow_ yX3_whichNow_ : Jvm.Cond) ∈ WS := WS_at 48 (by decide +kernel) rfl
theorem kc_66 {l : Launch} (hl : l.stackTraces = false) {G : GT} {own : String} {i : Nat} (hw : Jvm.Cond.methodLink own i yX3_whichNow_ ∈ WS) : vCal l G own i (2, 2, 7, 5, (fun _ _ => 0), (fun _ _ => 0), yX3_whichNow_, spOf (MX3_whichNow_ (gg G))) := ⟨cX3_whichNow_, 4, some .int, fun y hy => by subst hy; exact ⟨by decide, ⟨_, wk_1499, okX3_whichNow_ hl, Or.inl ⟨Nat.ne_of_beq_eq_false rfl, rfl⟩⟩, wk_60, nc13, ⟨(by decide +kernel : (parseMethodDescriptor yX3_whichNow_.desc).map (fun d => d.parameters.length + 1) = some 2), hw, wk_1498, wk_48, (RX3, TX3, 7), rfl, rfl⟩⟩⟩
theorem vMX3_which {l : Launch} (hl : l.stackTraces = false) (G : GT) : vM l G (MX3_which (gg G)) := vM_k RX3 cX3_which rfl rfl all_n all_n all_n all_n all_n (fun h => absurd rfl h) (all_c (kc_36 hl wk_1225) (all_c (kc_39 hl wk_1228) (all_c (kc_66 hl wk_1496) (all_n)))) all_n all_n (fun h => absurd rfl h) rfl all_n
theorem okX3_which {l : Launch} (hl : l.stackTraces = false) {G : GT} : ∀ (args : List Value) (w : Hw) (S : Ot → Hw → Prop), spOf (MX3_which (gg G)) args w S → CX l G yX3_which (.code yX3_which cX3_which 2 (some .int)) 6 0 0 args w S := CX_sp (M := MX3_which (gg G)) (y := yX3_which) hl (by decide) rfl (vMX3_which hl G) (fun h => by cases h) rfl
abbrev dX3_areSame_0_T : List (Nat × Instr × Nat) := [(0, .aload_n 0, 1), (1, .iload_n 1, 1), (2, .invokestatic 111, 3), (5, .ifCond .ne 10, 3), (8, .iload_n 2, 1), (9, .invokestatic 111, 3), (12, .ifCond .eq 7, 3), (15, .iconst 1, 1), (16, .goto 4, 3), (19, .iconst 0, 1), (20, .iconst 1, 1), (21, .invokevirtual 54, 3), (24, .ifCond .ne 64, 3), (27, .aload_n 0, 1), (28, .aload_n 0, 1), (29, .iload_n 1, 1), (30, .invokevirtual 118, 3), (33, .ifCond .ne 11, 3), (36, .aload_n 0, 1), (37, .iload_n 2, 1), (38, .invokevirtual 118, 3), (41, .ifCond .eq 7, 3), (44, .iconst 1, 1), (45, .goto 4, 3), (48, .iconst 0, 1), (49, .iconst 2, 1), (50, .invokevirtual 31, 3), (53, .ifCond .ne 35, 3), (56, .aload_n 0, 1), (57, .getfield 16, 3), (60, .iload_n 1, 1), (61, .invokevirtual 42, 3), (64, .checkcast 125, 3), (67, .aload_n 0, 1), (68, .getfield 16, 3), (71, .iload_n 2, 1), (72, .invokevirtual 42, 3), (75, .checkcast 125, 3), (78, .invokestatic 126, 3), (81, .ifCond .eq 7, 3)]
theorem dX3_areSame_0_D : dtc cX3_areSame dX3_areSame_0_T = true := by decide +kernel
abbrev dX3_areSame_84_T : List (Nat × Instr × Nat) := [(84, .iconst 1, 1), (85, .goto 4, 3), (88, .iconst 0, 1), (89, .ireturn, 1)]
theorem dX3_areSame_84_D : dtc cX3_areSame dX3_areSame_84_T = true := by decide +kernel
def MX3_areSame (g : RO) : MT := ((RX3, cX3_areSame, 3, 5, 0, 0, false, some .boolean), [(16, 7, 2)], [], [], [], [], 0, [(111, 0, 1, 0, 2, (fun _ _ => 0), (fun _ _ => 0), yX3_isNoCard, spOf (MX3_isNoCard g)), (54, 2, 3, 7, 2, (fun _ _ => 0), (fun _ _ => 0), yX3_start, spOf (MX3_start g)), (118, 2, 2, 7, 4, (fun _ _ => 0), (fun _ _ => 0), yX3_isBare, spOf (MX3_isBare g)), (31, 2, 3, 7, 1, (fun _ _ => 0), (fun _ _ => 0), yX3_refuse, spOf (MX3_refuse g)), (42, 2, 2, 3, 3, (fun _ _ => 0), (fun _ _ => 0), yJx4a65c_get_915e3, spOf (MJx4a65c_get_915e3 g)), (126, 0, 2, 0, 1, (fun _ _ => 0), (fun _ _ => 0), yX3_same, spOf (MX3_same g))], [], [(125, 0)], 0, [], [], g)
section
variable {g : RO} {Q : Ot → Hw → Prop} {st : List Value} {w : Hw} {k n p q : Nat} {a b : Int32} {x y : Int64} {u v : Value} {l0 l1 l2 : Option Value}
theorem eX3_areSame_0 : WP (MX3_areSame g) Q (0, [some (.ref p), l1, l2], st, w, k, n) = WP (MX3_areSame g) Q (1, [some (.ref p), l1, l2], .ref p :: st, w, k, n) := alnR_e rfl (dt_q dX3_areSame_0_D 0 rfl) rfl
theorem eX3_areSame_0N : WP (MX3_areSame g) Q (0, [some .null, l1, l2], st, w, k, n) = WP (MX3_areSame g) Q (1, [some .null, l1, l2], .null :: st, w, k, n) := alnN_e rfl (dt_q dX3_areSame_0_D 0 rfl) rfl
theorem eX3_areSame_1 : WP (MX3_areSame g) Q (1, [l0, some (.int a), l2], st, w, k, n) = WP (MX3_areSame g) Q (2, [l0, some (.int a), l2], .int a :: st, w, k, n) := iln_e rfl (dt_q dX3_areSame_0_D 1 rfl) rfl
theorem eX3_areSame_2 {z0 : Int32} : WP (MX3_areSame g) Q (2, [l0, l1, l2], .int z0 :: st, w, k, n) = (wt st ≤ 8 ∧ k + 0 ≤ 0 ∧ n + 0 ≤ 0 ∧ WP (MX3_isNoCard g) (kx (fun v w' => WP (MX3_areSame g) Q (5, [l0, l1, l2], v.toList ++ st, w', k + 0, n + 0)) (fun E w' => Q (.inr E) w')) (0, [some (.int z0)], [], w, 0, 0)) := csS0 (M := (MX3_areSame g)) (mc := (fun _ _ => 0)) (ms := (fun _ _ => 0)) (As := [.int z0]) (rest := st) (MX3_isNoCard g) rfl rfl rfl (dt_q dX3_areSame_0_D 2 rfl) rfl rfl rfl rfl rfl rfl rfl
theorem eX3_areSame_5 : WP (MX3_areSame g) Q (5, [l0, l1, l2], .int a :: st, w, k, n) = if a = 0 then WP (MX3_areSame g) Q (8, [l0, l1, l2], st, w, k, n) else WP (MX3_areSame g) Q (15, [l0, l1, l2], st, w, k, n) := ifcn_e (a = 0) rfl (dt_q dX3_areSame_0_D 3 rfl) rfl (by decide)
theorem eX3_areSame_8 : WP (MX3_areSame g) Q (8, [l0, l1, some (.int a)], st, w, k, n) = WP (MX3_areSame g) Q (9, [l0, l1, some (.int a)], .int a :: st, w, k, n) := iln_e rfl (dt_q dX3_areSame_0_D 4 rfl) rfl
theorem eX3_areSame_9 {z0 : Int32} : WP (MX3_areSame g) Q (9, [l0, l1, l2], .int z0 :: st, w, k, n) = (wt st ≤ 8 ∧ k + 0 ≤ 0 ∧ n + 0 ≤ 0 ∧ WP (MX3_isNoCard g) (kx (fun v w' => WP (MX3_areSame g) Q (12, [l0, l1, l2], v.toList ++ st, w', k + 0, n + 0)) (fun E w' => Q (.inr E) w')) (0, [some (.int z0)], [], w, 0, 0)) := csS0 (M := (MX3_areSame g)) (mc := (fun _ _ => 0)) (ms := (fun _ _ => 0)) (As := [.int z0]) (rest := st) (MX3_isNoCard g) rfl rfl rfl (dt_q dX3_areSame_0_D 5 rfl) rfl rfl rfl rfl rfl rfl rfl
theorem eX3_areSame_12 : WP (MX3_areSame g) Q (12, [l0, l1, l2], .int a :: st, w, k, n) = if a = 0 then WP (MX3_areSame g) Q (19, [l0, l1, l2], st, w, k, n) else WP (MX3_areSame g) Q (15, [l0, l1, l2], st, w, k, n) := ifc_e (a = 0) rfl (dt_q dX3_areSame_0_D 6 rfl) rfl (by decide)
theorem eX3_areSame_15 : WP (MX3_areSame g) Q (15, [l0, l1, l2], st, w, k, n) = WP (MX3_areSame g) Q (16, [l0, l1, l2], .int 1 :: st, w, k, n) := ic_1 rfl (dt_q dX3_areSame_0_D 7 rfl)
theorem eX3_areSame_16 : WP (MX3_areSame g) Q (16, [l0, l1, l2], st, w, k, n) = WP (MX3_areSame g) Q (20, [l0, l1, l2], st, w, k, n) := goto_e rfl (dt_q dX3_areSame_0_D 8 rfl) (by decide)
theorem eX3_areSame_19 : WP (MX3_areSame g) Q (19, [l0, l1, l2], st, w, k, n) = WP (MX3_areSame g) Q (20, [l0, l1, l2], .int 0 :: st, w, k, n) := ic_0 rfl (dt_q dX3_areSame_0_D 9 rfl)
theorem eX3_areSame_20 : WP (MX3_areSame g) Q (20, [l0, l1, l2], st, w, k, n) = WP (MX3_areSame g) Q (21, [l0, l1, l2], .int 1 :: st, w, k, n) := ic_1 rfl (dt_q dX3_areSame_0_D 10 rfl)
theorem eX3_areSame_21 {z0 : Int32} {z1 : Int32} : WP (MX3_areSame g) Q (21, [l0, l1, l2], .int z1 :: .int z0 :: .ref p :: st, w, k, n) = (go (rd g w p) 7 (fun _ => True) ∧ wt st ≤ 8 ∧ k + 0 ≤ 0 ∧ n + 0 ≤ 0 ∧ WP (MX3_start g) (kx (fun v w' => WP (MX3_areSame g) Q (24, [l0, l1, l2], v.toList ++ st, w', k + 0, n + 0)) (fun E w' => Q (.inr E) w')) (0, [some (.ref p), some (.int z0), some (.int z1)], [], w, 0, 0)) := csV0 (M := (MX3_areSame g)) (mc := (fun _ _ => 0)) (ms := (fun _ _ => 0)) (As := [.int z0, .int z1]) (rest := st) (MX3_start g) rfl rfl rfl (dt_q dX3_areSame_0_D 11 rfl) rfl rfl rfl rfl rfl rfl
theorem eX3_areSame_24 : WP (MX3_areSame g) Q (24, [l0, l1, l2], .int a :: st, w, k, n) = if a = 0 then WP (MX3_areSame g) Q (27, [l0, l1, l2], st, w, k, n) else WP (MX3_areSame g) Q (88, [l0, l1, l2], st, w, k, n) := ifcn_e (a = 0) rfl (dt_q dX3_areSame_0_D 12 rfl) rfl (by decide)
theorem eX3_areSame_27 : WP (MX3_areSame g) Q (27, [some (.ref p), l1, l2], st, w, k, n) = WP (MX3_areSame g) Q (28, [some (.ref p), l1, l2], .ref p :: st, w, k, n) := alnR_e rfl (dt_q dX3_areSame_0_D 13 rfl) rfl
theorem eX3_areSame_27N : WP (MX3_areSame g) Q (27, [some .null, l1, l2], st, w, k, n) = WP (MX3_areSame g) Q (28, [some .null, l1, l2], .null :: st, w, k, n) := alnN_e rfl (dt_q dX3_areSame_0_D 13 rfl) rfl
theorem eX3_areSame_28 : WP (MX3_areSame g) Q (28, [some (.ref p), l1, l2], st, w, k, n) = WP (MX3_areSame g) Q (29, [some (.ref p), l1, l2], .ref p :: st, w, k, n) := alnR_e rfl (dt_q dX3_areSame_0_D 14 rfl) rfl
theorem eX3_areSame_28N : WP (MX3_areSame g) Q (28, [some .null, l1, l2], st, w, k, n) = WP (MX3_areSame g) Q (29, [some .null, l1, l2], .null :: st, w, k, n) := alnN_e rfl (dt_q dX3_areSame_0_D 14 rfl) rfl
theorem eX3_areSame_29 : WP (MX3_areSame g) Q (29, [l0, some (.int a), l2], st, w, k, n) = WP (MX3_areSame g) Q (30, [l0, some (.int a), l2], .int a :: st, w, k, n) := iln_e rfl (dt_q dX3_areSame_0_D 15 rfl) rfl
theorem eX3_areSame_30 {z0 : Int32} : WP (MX3_areSame g) Q (30, [l0, l1, l2], .int z0 :: .ref p :: st, w, k, n) = (go (rd g w p) 7 (fun _ => True) ∧ wt st ≤ 8 ∧ k + 0 ≤ 0 ∧ n + 0 ≤ 0 ∧ WP (MX3_isBare g) (kx (fun v w' => WP (MX3_areSame g) Q (33, [l0, l1, l2], v.toList ++ st, w', k + 0, n + 0)) (fun E w' => Q (.inr E) w')) (0, [some (.ref p), some (.int z0)], [], w, 0, 0)) := csV0 (M := (MX3_areSame g)) (mc := (fun _ _ => 0)) (ms := (fun _ _ => 0)) (As := [.int z0]) (rest := st) (MX3_isBare g) rfl rfl rfl (dt_q dX3_areSame_0_D 16 rfl) rfl rfl rfl rfl rfl rfl
theorem eX3_areSame_33 : WP (MX3_areSame g) Q (33, [l0, l1, l2], .int a :: st, w, k, n) = if a = 0 then WP (MX3_areSame g) Q (36, [l0, l1, l2], st, w, k, n) else WP (MX3_areSame g) Q (44, [l0, l1, l2], st, w, k, n) := ifcn_e (a = 0) rfl (dt_q dX3_areSame_0_D 17 rfl) rfl (by decide)
theorem eX3_areSame_36 : WP (MX3_areSame g) Q (36, [some (.ref p), l1, l2], st, w, k, n) = WP (MX3_areSame g) Q (37, [some (.ref p), l1, l2], .ref p :: st, w, k, n) := alnR_e rfl (dt_q dX3_areSame_0_D 18 rfl) rfl
theorem eX3_areSame_36N : WP (MX3_areSame g) Q (36, [some .null, l1, l2], st, w, k, n) = WP (MX3_areSame g) Q (37, [some .null, l1, l2], .null :: st, w, k, n) := alnN_e rfl (dt_q dX3_areSame_0_D 18 rfl) rfl
theorem eX3_areSame_37 : WP (MX3_areSame g) Q (37, [l0, l1, some (.int a)], st, w, k, n) = WP (MX3_areSame g) Q (38, [l0, l1, some (.int a)], .int a :: st, w, k, n) := iln_e rfl (dt_q dX3_areSame_0_D 19 rfl) rfl
theorem eX3_areSame_38 {z0 : Int32} : WP (MX3_areSame g) Q (38, [l0, l1, l2], .int z0 :: .ref p :: st, w, k, n) = (go (rd g w p) 7 (fun _ => True) ∧ wt st ≤ 8 ∧ k + 0 ≤ 0 ∧ n + 0 ≤ 0 ∧ WP (MX3_isBare g) (kx (fun v w' => WP (MX3_areSame g) Q (41, [l0, l1, l2], v.toList ++ st, w', k + 0, n + 0)) (fun E w' => Q (.inr E) w')) (0, [some (.ref p), some (.int z0)], [], w, 0, 0)) := csV0 (M := (MX3_areSame g)) (mc := (fun _ _ => 0)) (ms := (fun _ _ => 0)) (As := [.int z0]) (rest := st) (MX3_isBare g) rfl rfl rfl (dt_q dX3_areSame_0_D 20 rfl) rfl rfl rfl rfl rfl rfl
theorem eX3_areSame_41 : WP (MX3_areSame g) Q (41, [l0, l1, l2], .int a :: st, w, k, n) = if a = 0 then WP (MX3_areSame g) Q (48, [l0, l1, l2], st, w, k, n) else WP (MX3_areSame g) Q (44, [l0, l1, l2], st, w, k, n) := ifc_e (a = 0) rfl (dt_q dX3_areSame_0_D 21 rfl) rfl (by decide)
theorem eX3_areSame_44 : WP (MX3_areSame g) Q (44, [l0, l1, l2], st, w, k, n) = WP (MX3_areSame g) Q (45, [l0, l1, l2], .int 1 :: st, w, k, n) := ic_1 rfl (dt_q dX3_areSame_0_D 22 rfl)
theorem eX3_areSame_45 : WP (MX3_areSame g) Q (45, [l0, l1, l2], st, w, k, n) = WP (MX3_areSame g) Q (49, [l0, l1, l2], st, w, k, n) := goto_e rfl (dt_q dX3_areSame_0_D 23 rfl) (by decide)
theorem eX3_areSame_48 : WP (MX3_areSame g) Q (48, [l0, l1, l2], st, w, k, n) = WP (MX3_areSame g) Q (49, [l0, l1, l2], .int 0 :: st, w, k, n) := ic_0 rfl (dt_q dX3_areSame_0_D 24 rfl)
theorem eX3_areSame_49 : WP (MX3_areSame g) Q (49, [l0, l1, l2], st, w, k, n) = WP (MX3_areSame g) Q (50, [l0, l1, l2], .int 2 :: st, w, k, n) := ic_2 rfl (dt_q dX3_areSame_0_D 25 rfl)
theorem eX3_areSame_50 {z0 : Int32} {z1 : Int32} : WP (MX3_areSame g) Q (50, [l0, l1, l2], .int z1 :: .int z0 :: .ref p :: st, w, k, n) = (go (rd g w p) 7 (fun _ => True) ∧ wt st ≤ 8 ∧ k + 0 ≤ 0 ∧ n + 0 ≤ 0 ∧ WP (MX3_refuse g) (kx (fun v w' => WP (MX3_areSame g) Q (53, [l0, l1, l2], v.toList ++ st, w', k + 0, n + 0)) (fun E w' => Q (.inr E) w')) (0, [some (.ref p), some (.int z0), some (.int z1)], [], w, 0, 0)) := csV0 (M := (MX3_areSame g)) (mc := (fun _ _ => 0)) (ms := (fun _ _ => 0)) (As := [.int z0, .int z1]) (rest := st) (MX3_refuse g) rfl rfl rfl (dt_q dX3_areSame_0_D 26 rfl) rfl rfl rfl rfl rfl rfl
theorem eX3_areSame_53 : WP (MX3_areSame g) Q (53, [l0, l1, l2], .int a :: st, w, k, n) = if a = 0 then WP (MX3_areSame g) Q (56, [l0, l1, l2], st, w, k, n) else WP (MX3_areSame g) Q (88, [l0, l1, l2], st, w, k, n) := ifcn_e (a = 0) rfl (dt_q dX3_areSame_0_D 27 rfl) rfl (by decide)
theorem eX3_areSame_56 : WP (MX3_areSame g) Q (56, [some (.ref p), l1, l2], st, w, k, n) = WP (MX3_areSame g) Q (57, [some (.ref p), l1, l2], .ref p :: st, w, k, n) := alnR_e rfl (dt_q dX3_areSame_0_D 28 rfl) rfl
theorem eX3_areSame_56N : WP (MX3_areSame g) Q (56, [some .null, l1, l2], st, w, k, n) = WP (MX3_areSame g) Q (57, [some .null, l1, l2], .null :: st, w, k, n) := alnN_e rfl (dt_q dX3_areSame_0_D 28 rfl) rfl
theorem eX3_areSame_57 : WP (MX3_areSame g) Q (57, [l0, l1, l2], .ref p :: st, w, k, n) = go (rd g w p) 7 fun fs => ∃ v, fs[2]? = some v ∧ WP (MX3_areSame g) Q (60, [l0, l1, l2], v :: st, w, k, n) := get_e rfl (dt_q dX3_areSame_0_D 29 rfl) rfl
theorem eX3_areSame_60 : WP (MX3_areSame g) Q (60, [l0, some (.int a), l2], st, w, k, n) = WP (MX3_areSame g) Q (61, [l0, some (.int a), l2], .int a :: st, w, k, n) := iln_e rfl (dt_q dX3_areSame_0_D 30 rfl) rfl
theorem eX3_areSame_61 {z0 : Int32} : WP (MX3_areSame g) Q (61, [l0, l1, l2], .int z0 :: .ref p :: st, w, k, n) = (go (rd g w p) 3 (fun _ => True) ∧ wt st ≤ 8 ∧ k + 0 ≤ 0 ∧ n + 0 ≤ 0 ∧ WP (MJx4a65c_get_915e3 g) (kx (fun v w' => WP (MX3_areSame g) Q (64, [l0, l1, l2], v.toList ++ st, w', k + 0, n + 0)) (fun E w' => Q (.inr E) w')) (0, [some (.ref p), some (.int z0)], [], w, 0, 0)) := csV0 (M := (MX3_areSame g)) (mc := (fun _ _ => 0)) (ms := (fun _ _ => 0)) (As := [.int z0]) (rest := st) (MJx4a65c_get_915e3 g) rfl rfl rfl (dt_q dX3_areSame_0_D 31 rfl) rfl rfl rfl rfl rfl rfl
theorem eX3_areSame_64N : WP (MX3_areSame g) Q (64, [l0, l1, l2], .null :: st, w, k, n) = WP (MX3_areSame g) Q (67, [l0, l1, l2], .null :: st, w, k, n) := castN_e rfl (dt_q dX3_areSame_0_D 32 rfl)
theorem eX3_areSame_64R : WP (MX3_areSame g) Q (64, [l0, l1, l2], .ref p :: st, w, k, n) = ((∃ x, w p = some (.inl (0, x))) ∧ WP (MX3_areSame g) Q (67, [l0, l1, l2], .ref p :: st, w, k, n)) := castR_e rfl (dt_q dX3_areSame_0_D 32 rfl) rfl
theorem eX3_areSame_67 : WP (MX3_areSame g) Q (67, [some (.ref p), l1, l2], st, w, k, n) = WP (MX3_areSame g) Q (68, [some (.ref p), l1, l2], .ref p :: st, w, k, n) := alnR_e rfl (dt_q dX3_areSame_0_D 33 rfl) rfl
theorem eX3_areSame_67N : WP (MX3_areSame g) Q (67, [some .null, l1, l2], st, w, k, n) = WP (MX3_areSame g) Q (68, [some .null, l1, l2], .null :: st, w, k, n) := alnN_e rfl (dt_q dX3_areSame_0_D 33 rfl) rfl
theorem eX3_areSame_68 : WP (MX3_areSame g) Q (68, [l0, l1, l2], .ref p :: st, w, k, n) = go (rd g w p) 7 fun fs => ∃ v, fs[2]? = some v ∧ WP (MX3_areSame g) Q (71, [l0, l1, l2], v :: st, w, k, n) := get_e rfl (dt_q dX3_areSame_0_D 34 rfl) rfl
theorem eX3_areSame_71 : WP (MX3_areSame g) Q (71, [l0, l1, some (.int a)], st, w, k, n) = WP (MX3_areSame g) Q (72, [l0, l1, some (.int a)], .int a :: st, w, k, n) := iln_e rfl (dt_q dX3_areSame_0_D 35 rfl) rfl
theorem eX3_areSame_72 {z0 : Int32} : WP (MX3_areSame g) Q (72, [l0, l1, l2], .int z0 :: .ref p :: st, w, k, n) = (go (rd g w p) 3 (fun _ => True) ∧ wt st ≤ 8 ∧ k + 0 ≤ 0 ∧ n + 0 ≤ 0 ∧ WP (MJx4a65c_get_915e3 g) (kx (fun v w' => WP (MX3_areSame g) Q (75, [l0, l1, l2], v.toList ++ st, w', k + 0, n + 0)) (fun E w' => Q (.inr E) w')) (0, [some (.ref p), some (.int z0)], [], w, 0, 0)) := csV0 (M := (MX3_areSame g)) (mc := (fun _ _ => 0)) (ms := (fun _ _ => 0)) (As := [.int z0]) (rest := st) (MJx4a65c_get_915e3 g) rfl rfl rfl (dt_q dX3_areSame_0_D 36 rfl) rfl rfl rfl rfl rfl rfl
theorem eX3_areSame_75N : WP (MX3_areSame g) Q (75, [l0, l1, l2], .null :: st, w, k, n) = WP (MX3_areSame g) Q (78, [l0, l1, l2], .null :: st, w, k, n) := castN_e rfl (dt_q dX3_areSame_0_D 37 rfl)
theorem eX3_areSame_75R : WP (MX3_areSame g) Q (75, [l0, l1, l2], .ref p :: st, w, k, n) = ((∃ x, w p = some (.inl (0, x))) ∧ WP (MX3_areSame g) Q (78, [l0, l1, l2], .ref p :: st, w, k, n)) := castR_e rfl (dt_q dX3_areSame_0_D 37 rfl) rfl
theorem eX3_areSame_78RR {z0 : Nat} {z1 : Nat} : WP (MX3_areSame g) Q (78, [l0, l1, l2], .ref z1 :: .ref z0 :: st, w, k, n) = (wt st ≤ 8 ∧ k + 0 ≤ 0 ∧ n + 0 ≤ 0 ∧ WP (MX3_same g) (kx (fun v w' => WP (MX3_areSame g) Q (81, [l0, l1, l2], v.toList ++ st, w', k + 0, n + 0)) (fun E w' => Q (.inr E) w')) (0, [some (.ref z0), some (.ref z1), none, none], [], w, 0, 0)) := csS0 (M := (MX3_areSame g)) (mc := (fun _ _ => 0)) (ms := (fun _ _ => 0)) (As := [.ref z0, .ref z1]) (rest := st) (MX3_same g) rfl rfl rfl (dt_q dX3_areSame_0_D 38 rfl) rfl rfl rfl rfl rfl rfl rfl
theorem eX3_areSame_78NR {z1 : Nat} : WP (MX3_areSame g) Q (78, [l0, l1, l2], .ref z1 :: .null :: st, w, k, n) = (wt st ≤ 8 ∧ k + 0 ≤ 0 ∧ n + 0 ≤ 0 ∧ WP (MX3_same g) (kx (fun v w' => WP (MX3_areSame g) Q (81, [l0, l1, l2], v.toList ++ st, w', k + 0, n + 0)) (fun E w' => Q (.inr E) w')) (0, [some .null, some (.ref z1), none, none], [], w, 0, 0)) := csS0 (M := (MX3_areSame g)) (mc := (fun _ _ => 0)) (ms := (fun _ _ => 0)) (As := [.null, .ref z1]) (rest := st) (MX3_same g) rfl rfl rfl (dt_q dX3_areSame_0_D 38 rfl) rfl rfl rfl rfl rfl rfl rfl
theorem eX3_areSame_78RN {z0 : Nat} : WP (MX3_areSame g) Q (78, [l0, l1, l2], .null :: .ref z0 :: st, w, k, n) = (wt st ≤ 8 ∧ k + 0 ≤ 0 ∧ n + 0 ≤ 0 ∧ WP (MX3_same g) (kx (fun v w' => WP (MX3_areSame g) Q (81, [l0, l1, l2], v.toList ++ st, w', k + 0, n + 0)) (fun E w' => Q (.inr E) w')) (0, [some (.ref z0), some .null, none, none], [], w, 0, 0)) := csS0 (M := (MX3_areSame g)) (mc := (fun _ _ => 0)) (ms := (fun _ _ => 0)) (As := [.ref z0, .null]) (rest := st) (MX3_same g) rfl rfl rfl (dt_q dX3_areSame_0_D 38 rfl) rfl rfl rfl rfl rfl rfl rfl
theorem eX3_areSame_78NN  : WP (MX3_areSame g) Q (78, [l0, l1, l2], .null :: .null :: st, w, k, n) = (wt st ≤ 8 ∧ k + 0 ≤ 0 ∧ n + 0 ≤ 0 ∧ WP (MX3_same g) (kx (fun v w' => WP (MX3_areSame g) Q (81, [l0, l1, l2], v.toList ++ st, w', k + 0, n + 0)) (fun E w' => Q (.inr E) w')) (0, [some .null, some .null, none, none], [], w, 0, 0)) := csS0 (M := (MX3_areSame g)) (mc := (fun _ _ => 0)) (ms := (fun _ _ => 0)) (As := [.null, .null]) (rest := st) (MX3_same g) rfl rfl rfl (dt_q dX3_areSame_0_D 38 rfl) rfl rfl rfl rfl rfl rfl rfl
theorem eX3_areSame_81 : WP (MX3_areSame g) Q (81, [l0, l1, l2], .int a :: st, w, k, n) = if a = 0 then WP (MX3_areSame g) Q (88, [l0, l1, l2], st, w, k, n) else WP (MX3_areSame g) Q (84, [l0, l1, l2], st, w, k, n) := ifc_e (a = 0) rfl (dt_q dX3_areSame_0_D 39 rfl) rfl (by decide)
theorem eX3_areSame_84 : WP (MX3_areSame g) Q (84, [l0, l1, l2], st, w, k, n) = WP (MX3_areSame g) Q (85, [l0, l1, l2], .int 1 :: st, w, k, n) := ic_1 rfl (dt_q dX3_areSame_84_D 0 rfl)
theorem eX3_areSame_85 : WP (MX3_areSame g) Q (85, [l0, l1, l2], st, w, k, n) = WP (MX3_areSame g) Q (89, [l0, l1, l2], st, w, k, n) := goto_e rfl (dt_q dX3_areSame_84_D 1 rfl) (by decide)
theorem eX3_areSame_88 : WP (MX3_areSame g) Q (88, [l0, l1, l2], st, w, k, n) = WP (MX3_areSame g) Q (89, [l0, l1, l2], .int 0 :: st, w, k, n) := ic_0 rfl (dt_q dX3_areSame_84_D 2 rfl)
set_option maxRecDepth 20000 in
theorem eX3_areSame_89 : WP (MX3_areSame g) Q (89, [l0, l1, l2], [.int a], w, k, n) = (narrow (.boolean) (.int a) = .int a ∧ k ≤ 0 ∧ n ≤ 0 ∧ Q (.inl (some (.int a))) w) := iret_e rfl (dt_q dX3_areSame_84_D 3 rfl) rfl
end
theorem vMX3_areSame {l : Launch} (hl : l.stackTraces = false) (G : GT) : vM l G (MX3_areSame (gg G)) := vM_k RX3 cX3_areSame rfl rfl (all_c (vF_RX3_16) (all_n)) all_n all_n all_n all_n (fun h => absurd rfl h) (all_c (kc_51 hl wk_1318) (all_c (kc_39 hl wk_1228) (all_c (kc_53 hl wk_1372) (all_c (kc_35 hl wk_1232) (all_c (kc_37 hl wk_1376) (all_c (kc_55 hl wk_1385) (all_n))))))) all_n (all_c (⟨.long, rfl, (fun C h => by cases h), wk_1380⟩) (all_n)) (fun h => absurd rfl h) rfl all_n
theorem okX3_areSame {l : Launch} (hl : l.stackTraces = false) {G : GT} : ∀ (args : List Value) (w : Hw) (S : Ot → Hw → Prop), spOf (MX3_areSame (gg G)) args w S → CX l G yX3_areSame (.code yX3_areSame cX3_areSame 3 (some .boolean)) 5 0 0 args w S := CX_sp (M := MX3_areSame (gg G)) (y := yX3_areSame) hl (by decide) rfl (vMX3_areSame hl G) (fun h => by cases h) rfl
abbrev dX3_isSameAs_0_T : List (Nat × Instr × Nat) := [(0, .aload_n 0, 1), (1, .iload_n 1, 1), (2, .invokestatic 111, 3), (5, .iconst 1, 1), (6, .invokevirtual 54, 3), (9, .ifCond .ne 38, 3), (12, .aload_n 0, 1), (13, .iload_n 2, 1), (14, .iconst 0, 1), (15, .iconst 4, 1), (16, .invokestatic 38, 3), (19, .ifCond .ne 7, 3), (22, .iconst 1, 1), (23, .goto 4, 3), (26, .iconst 0, 1), (27, .iconst 2, 1), (28, .invokevirtual 31, 3), (31, .ifCond .ne 16, 3), (34, .aload_n 0, 1), (35, .aload_n 0, 1), (36, .iload_n 1, 1), (37, .invokevirtual 118, 3), (40, .iconst 3, 1), (41, .invokevirtual 31, 3), (44, .ifCond .eq 5, 3), (47, .iconst 0, 1), (48, .ireturn, 1), (49, .iload_n 2, 1), (50, .iconst 2, 1), (51, .if_icmp .eq 30, 3), (54, .iload_n 2, 1), (55, .iconst 3, 1), (56, .if_icmp .eq 25, 3), (59, .iload_n 2, 1), (60, .iconst 4, 1), (61, .if_icmp .ne 24, 3), (64, .aload_n 0, 1), (65, .getfield 16, 3), (68, .iload_n 1, 1), (69, .invokevirtual 42, 3)]
theorem dX3_isSameAs_0_D : dtc cX3_isSameAs dX3_isSameAs_0_T = true := by decide +kernel
abbrev dX3_isSameAs_72_T : List (Nat × Instr × Nat) := [(72, .checkcast 125, 3), (75, .invokestatic 130, 3), (78, .ifCond .eq 7, 3), (81, .iconst 1, 1), (82, .goto 4, 3), (85, .iconst 0, 1), (86, .ireturn, 1)]
theorem dX3_isSameAs_72_D : dtc cX3_isSameAs dX3_isSameAs_72_T = true := by decide +kernel
def MX3_isSameAs (g : RO) : MT := ((RX3, cX3_isSameAs, 3, 5, 0, 0, false, some .boolean), [(16, 7, 2)], [], [], [], [], 0, [(111, 0, 1, 0, 2, (fun _ _ => 0), (fun _ _ => 0), yX3_isNoCard, spOf (MX3_isNoCard g)), (54, 2, 3, 7, 2, (fun _ _ => 0), (fun _ _ => 0), yX3_start, spOf (MX3_start g)), (38, 0, 3, 0, 1, (fun _ _ => 0), (fun _ _ => 0), yX3_isIn, spOf (MX3_isIn g)), (31, 2, 3, 7, 1, (fun _ _ => 0), (fun _ _ => 0), yX3_refuse, spOf (MX3_refuse g)), (118, 2, 2, 7, 4, (fun _ _ => 0), (fun _ _ => 0), yX3_isBare, spOf (MX3_isBare g)), (42, 2, 2, 3, 3, (fun _ _ => 0), (fun _ _ => 0), yJx4a65c_get_915e3, spOf (MJx4a65c_get_915e3 g)), (130, 0, 1, 0, 1, (fun _ _ => 0), (fun _ _ => 0), yX3_fixed, spOf (MX3_fixed g))], [], [(125, 0)], 0, [], [], g)
section
variable {g : RO} {Q : Ot → Hw → Prop} {st : List Value} {w : Hw} {k n p q : Nat} {a b : Int32} {x y : Int64} {u v : Value} {l0 l1 l2 : Option Value}
theorem eX3_isSameAs_0 : WP (MX3_isSameAs g) Q (0, [some (.ref p), l1, l2], st, w, k, n) = WP (MX3_isSameAs g) Q (1, [some (.ref p), l1, l2], .ref p :: st, w, k, n) := alnR_e rfl (dt_q dX3_isSameAs_0_D 0 rfl) rfl
theorem eX3_isSameAs_0N : WP (MX3_isSameAs g) Q (0, [some .null, l1, l2], st, w, k, n) = WP (MX3_isSameAs g) Q (1, [some .null, l1, l2], .null :: st, w, k, n) := alnN_e rfl (dt_q dX3_isSameAs_0_D 0 rfl) rfl
theorem eX3_isSameAs_1 : WP (MX3_isSameAs g) Q (1, [l0, some (.int a), l2], st, w, k, n) = WP (MX3_isSameAs g) Q (2, [l0, some (.int a), l2], .int a :: st, w, k, n) := iln_e rfl (dt_q dX3_isSameAs_0_D 1 rfl) rfl
theorem eX3_isSameAs_2 {z0 : Int32} : WP (MX3_isSameAs g) Q (2, [l0, l1, l2], .int z0 :: st, w, k, n) = (wt st ≤ 8 ∧ k + 0 ≤ 0 ∧ n + 0 ≤ 0 ∧ WP (MX3_isNoCard g) (kx (fun v w' => WP (MX3_isSameAs g) Q (5, [l0, l1, l2], v.toList ++ st, w', k + 0, n + 0)) (fun E w' => Q (.inr E) w')) (0, [some (.int z0)], [], w, 0, 0)) := csS0 (M := (MX3_isSameAs g)) (mc := (fun _ _ => 0)) (ms := (fun _ _ => 0)) (As := [.int z0]) (rest := st) (MX3_isNoCard g) rfl rfl rfl (dt_q dX3_isSameAs_0_D 2 rfl) rfl rfl rfl rfl rfl rfl rfl
theorem eX3_isSameAs_5 : WP (MX3_isSameAs g) Q (5, [l0, l1, l2], st, w, k, n) = WP (MX3_isSameAs g) Q (6, [l0, l1, l2], .int 1 :: st, w, k, n) := ic_1 rfl (dt_q dX3_isSameAs_0_D 3 rfl)
theorem eX3_isSameAs_6 {z0 : Int32} {z1 : Int32} : WP (MX3_isSameAs g) Q (6, [l0, l1, l2], .int z1 :: .int z0 :: .ref p :: st, w, k, n) = (go (rd g w p) 7 (fun _ => True) ∧ wt st ≤ 8 ∧ k + 0 ≤ 0 ∧ n + 0 ≤ 0 ∧ WP (MX3_start g) (kx (fun v w' => WP (MX3_isSameAs g) Q (9, [l0, l1, l2], v.toList ++ st, w', k + 0, n + 0)) (fun E w' => Q (.inr E) w')) (0, [some (.ref p), some (.int z0), some (.int z1)], [], w, 0, 0)) := csV0 (M := (MX3_isSameAs g)) (mc := (fun _ _ => 0)) (ms := (fun _ _ => 0)) (As := [.int z0, .int z1]) (rest := st) (MX3_start g) rfl rfl rfl (dt_q dX3_isSameAs_0_D 4 rfl) rfl rfl rfl rfl rfl rfl
theorem eX3_isSameAs_9 : WP (MX3_isSameAs g) Q (9, [l0, l1, l2], .int a :: st, w, k, n) = if a = 0 then WP (MX3_isSameAs g) Q (12, [l0, l1, l2], st, w, k, n) else WP (MX3_isSameAs g) Q (47, [l0, l1, l2], st, w, k, n) := ifcn_e (a = 0) rfl (dt_q dX3_isSameAs_0_D 5 rfl) rfl (by decide)
theorem eX3_isSameAs_12 : WP (MX3_isSameAs g) Q (12, [some (.ref p), l1, l2], st, w, k, n) = WP (MX3_isSameAs g) Q (13, [some (.ref p), l1, l2], .ref p :: st, w, k, n) := alnR_e rfl (dt_q dX3_isSameAs_0_D 6 rfl) rfl
theorem eX3_isSameAs_12N : WP (MX3_isSameAs g) Q (12, [some .null, l1, l2], st, w, k, n) = WP (MX3_isSameAs g) Q (13, [some .null, l1, l2], .null :: st, w, k, n) := alnN_e rfl (dt_q dX3_isSameAs_0_D 6 rfl) rfl
theorem eX3_isSameAs_13 : WP (MX3_isSameAs g) Q (13, [l0, l1, some (.int a)], st, w, k, n) = WP (MX3_isSameAs g) Q (14, [l0, l1, some (.int a)], .int a :: st, w, k, n) := iln_e rfl (dt_q dX3_isSameAs_0_D 7 rfl) rfl
theorem eX3_isSameAs_14 : WP (MX3_isSameAs g) Q (14, [l0, l1, l2], st, w, k, n) = WP (MX3_isSameAs g) Q (15, [l0, l1, l2], .int 0 :: st, w, k, n) := ic_0 rfl (dt_q dX3_isSameAs_0_D 8 rfl)
theorem eX3_isSameAs_15 : WP (MX3_isSameAs g) Q (15, [l0, l1, l2], st, w, k, n) = WP (MX3_isSameAs g) Q (16, [l0, l1, l2], .int 4 :: st, w, k, n) := ic_4 rfl (dt_q dX3_isSameAs_0_D 9 rfl)
theorem eX3_isSameAs_16 {z0 : Int32} {z1 : Int32} {z2 : Int32} : WP (MX3_isSameAs g) Q (16, [l0, l1, l2], .int z2 :: .int z1 :: .int z0 :: st, w, k, n) = (wt st ≤ 8 ∧ k + 0 ≤ 0 ∧ n + 0 ≤ 0 ∧ WP (MX3_isIn g) (kx (fun v w' => WP (MX3_isSameAs g) Q (19, [l0, l1, l2], v.toList ++ st, w', k + 0, n + 0)) (fun E w' => Q (.inr E) w')) (0, [some (.int z0), some (.int z1), some (.int z2)], [], w, 0, 0)) := csS0 (M := (MX3_isSameAs g)) (mc := (fun _ _ => 0)) (ms := (fun _ _ => 0)) (As := [.int z0, .int z1, .int z2]) (rest := st) (MX3_isIn g) rfl rfl rfl (dt_q dX3_isSameAs_0_D 10 rfl) rfl rfl rfl rfl rfl rfl rfl
theorem eX3_isSameAs_19 : WP (MX3_isSameAs g) Q (19, [l0, l1, l2], .int a :: st, w, k, n) = if a = 0 then WP (MX3_isSameAs g) Q (22, [l0, l1, l2], st, w, k, n) else WP (MX3_isSameAs g) Q (26, [l0, l1, l2], st, w, k, n) := ifcn_e (a = 0) rfl (dt_q dX3_isSameAs_0_D 11 rfl) rfl (by decide)
theorem eX3_isSameAs_22 : WP (MX3_isSameAs g) Q (22, [l0, l1, l2], st, w, k, n) = WP (MX3_isSameAs g) Q (23, [l0, l1, l2], .int 1 :: st, w, k, n) := ic_1 rfl (dt_q dX3_isSameAs_0_D 12 rfl)
theorem eX3_isSameAs_23 : WP (MX3_isSameAs g) Q (23, [l0, l1, l2], st, w, k, n) = WP (MX3_isSameAs g) Q (27, [l0, l1, l2], st, w, k, n) := goto_e rfl (dt_q dX3_isSameAs_0_D 13 rfl) (by decide)
theorem eX3_isSameAs_26 : WP (MX3_isSameAs g) Q (26, [l0, l1, l2], st, w, k, n) = WP (MX3_isSameAs g) Q (27, [l0, l1, l2], .int 0 :: st, w, k, n) := ic_0 rfl (dt_q dX3_isSameAs_0_D 14 rfl)
theorem eX3_isSameAs_27 : WP (MX3_isSameAs g) Q (27, [l0, l1, l2], st, w, k, n) = WP (MX3_isSameAs g) Q (28, [l0, l1, l2], .int 2 :: st, w, k, n) := ic_2 rfl (dt_q dX3_isSameAs_0_D 15 rfl)
theorem eX3_isSameAs_28 {z0 : Int32} {z1 : Int32} : WP (MX3_isSameAs g) Q (28, [l0, l1, l2], .int z1 :: .int z0 :: .ref p :: st, w, k, n) = (go (rd g w p) 7 (fun _ => True) ∧ wt st ≤ 8 ∧ k + 0 ≤ 0 ∧ n + 0 ≤ 0 ∧ WP (MX3_refuse g) (kx (fun v w' => WP (MX3_isSameAs g) Q (31, [l0, l1, l2], v.toList ++ st, w', k + 0, n + 0)) (fun E w' => Q (.inr E) w')) (0, [some (.ref p), some (.int z0), some (.int z1)], [], w, 0, 0)) := csV0 (M := (MX3_isSameAs g)) (mc := (fun _ _ => 0)) (ms := (fun _ _ => 0)) (As := [.int z0, .int z1]) (rest := st) (MX3_refuse g) rfl rfl rfl (dt_q dX3_isSameAs_0_D 16 rfl) rfl rfl rfl rfl rfl rfl
theorem eX3_isSameAs_31 : WP (MX3_isSameAs g) Q (31, [l0, l1, l2], .int a :: st, w, k, n) = if a = 0 then WP (MX3_isSameAs g) Q (34, [l0, l1, l2], st, w, k, n) else WP (MX3_isSameAs g) Q (47, [l0, l1, l2], st, w, k, n) := ifcn_e (a = 0) rfl (dt_q dX3_isSameAs_0_D 17 rfl) rfl (by decide)
theorem eX3_isSameAs_34 : WP (MX3_isSameAs g) Q (34, [some (.ref p), l1, l2], st, w, k, n) = WP (MX3_isSameAs g) Q (35, [some (.ref p), l1, l2], .ref p :: st, w, k, n) := alnR_e rfl (dt_q dX3_isSameAs_0_D 18 rfl) rfl
theorem eX3_isSameAs_34N : WP (MX3_isSameAs g) Q (34, [some .null, l1, l2], st, w, k, n) = WP (MX3_isSameAs g) Q (35, [some .null, l1, l2], .null :: st, w, k, n) := alnN_e rfl (dt_q dX3_isSameAs_0_D 18 rfl) rfl
theorem eX3_isSameAs_35 : WP (MX3_isSameAs g) Q (35, [some (.ref p), l1, l2], st, w, k, n) = WP (MX3_isSameAs g) Q (36, [some (.ref p), l1, l2], .ref p :: st, w, k, n) := alnR_e rfl (dt_q dX3_isSameAs_0_D 19 rfl) rfl
theorem eX3_isSameAs_35N : WP (MX3_isSameAs g) Q (35, [some .null, l1, l2], st, w, k, n) = WP (MX3_isSameAs g) Q (36, [some .null, l1, l2], .null :: st, w, k, n) := alnN_e rfl (dt_q dX3_isSameAs_0_D 19 rfl) rfl
theorem eX3_isSameAs_36 : WP (MX3_isSameAs g) Q (36, [l0, some (.int a), l2], st, w, k, n) = WP (MX3_isSameAs g) Q (37, [l0, some (.int a), l2], .int a :: st, w, k, n) := iln_e rfl (dt_q dX3_isSameAs_0_D 20 rfl) rfl
theorem eX3_isSameAs_37 {z0 : Int32} : WP (MX3_isSameAs g) Q (37, [l0, l1, l2], .int z0 :: .ref p :: st, w, k, n) = (go (rd g w p) 7 (fun _ => True) ∧ wt st ≤ 8 ∧ k + 0 ≤ 0 ∧ n + 0 ≤ 0 ∧ WP (MX3_isBare g) (kx (fun v w' => WP (MX3_isSameAs g) Q (40, [l0, l1, l2], v.toList ++ st, w', k + 0, n + 0)) (fun E w' => Q (.inr E) w')) (0, [some (.ref p), some (.int z0)], [], w, 0, 0)) := csV0 (M := (MX3_isSameAs g)) (mc := (fun _ _ => 0)) (ms := (fun _ _ => 0)) (As := [.int z0]) (rest := st) (MX3_isBare g) rfl rfl rfl (dt_q dX3_isSameAs_0_D 21 rfl) rfl rfl rfl rfl rfl rfl
theorem eX3_isSameAs_40 : WP (MX3_isSameAs g) Q (40, [l0, l1, l2], st, w, k, n) = WP (MX3_isSameAs g) Q (41, [l0, l1, l2], .int 3 :: st, w, k, n) := ic_3 rfl (dt_q dX3_isSameAs_0_D 22 rfl)
theorem eX3_isSameAs_41 {z0 : Int32} {z1 : Int32} : WP (MX3_isSameAs g) Q (41, [l0, l1, l2], .int z1 :: .int z0 :: .ref p :: st, w, k, n) = (go (rd g w p) 7 (fun _ => True) ∧ wt st ≤ 8 ∧ k + 0 ≤ 0 ∧ n + 0 ≤ 0 ∧ WP (MX3_refuse g) (kx (fun v w' => WP (MX3_isSameAs g) Q (44, [l0, l1, l2], v.toList ++ st, w', k + 0, n + 0)) (fun E w' => Q (.inr E) w')) (0, [some (.ref p), some (.int z0), some (.int z1)], [], w, 0, 0)) := csV0 (M := (MX3_isSameAs g)) (mc := (fun _ _ => 0)) (ms := (fun _ _ => 0)) (As := [.int z0, .int z1]) (rest := st) (MX3_refuse g) rfl rfl rfl (dt_q dX3_isSameAs_0_D 23 rfl) rfl rfl rfl rfl rfl rfl
theorem eX3_isSameAs_44 : WP (MX3_isSameAs g) Q (44, [l0, l1, l2], .int a :: st, w, k, n) = if a = 0 then WP (MX3_isSameAs g) Q (49, [l0, l1, l2], st, w, k, n) else WP (MX3_isSameAs g) Q (47, [l0, l1, l2], st, w, k, n) := ifc_e (a = 0) rfl (dt_q dX3_isSameAs_0_D 24 rfl) rfl (by decide)
theorem eX3_isSameAs_47 : WP (MX3_isSameAs g) Q (47, [l0, l1, l2], st, w, k, n) = WP (MX3_isSameAs g) Q (48, [l0, l1, l2], .int 0 :: st, w, k, n) := ic_0 rfl (dt_q dX3_isSameAs_0_D 25 rfl)
set_option maxRecDepth 20000 in
theorem eX3_isSameAs_48 : WP (MX3_isSameAs g) Q (48, [l0, l1, l2], [.int a], w, k, n) = (narrow (.boolean) (.int a) = .int a ∧ k ≤ 0 ∧ n ≤ 0 ∧ Q (.inl (some (.int a))) w) := iret_e rfl (dt_q dX3_isSameAs_0_D 26 rfl) rfl
theorem eX3_isSameAs_49 : WP (MX3_isSameAs g) Q (49, [l0, l1, some (.int a)], st, w, k, n) = WP (MX3_isSameAs g) Q (50, [l0, l1, some (.int a)], .int a :: st, w, k, n) := iln_e rfl (dt_q dX3_isSameAs_0_D 27 rfl) rfl
theorem eX3_isSameAs_50 : WP (MX3_isSameAs g) Q (50, [l0, l1, l2], st, w, k, n) = WP (MX3_isSameAs g) Q (51, [l0, l1, l2], .int 2 :: st, w, k, n) := ic_2 rfl (dt_q dX3_isSameAs_0_D 28 rfl)
theorem eX3_isSameAs_51 : WP (MX3_isSameAs g) Q (51, [l0, l1, l2], .int b :: .int a :: st, w, k, n) = if a = b then WP (MX3_isSameAs g) Q (81, [l0, l1, l2], st, w, k, n) else WP (MX3_isSameAs g) Q (54, [l0, l1, l2], st, w, k, n) := icm_e (a = b) rfl (dt_q dX3_isSameAs_0_D 29 rfl) rfl (by decide)
theorem eX3_isSameAs_54 : WP (MX3_isSameAs g) Q (54, [l0, l1, some (.int a)], st, w, k, n) = WP (MX3_isSameAs g) Q (55, [l0, l1, some (.int a)], .int a :: st, w, k, n) := iln_e rfl (dt_q dX3_isSameAs_0_D 30 rfl) rfl
theorem eX3_isSameAs_55 : WP (MX3_isSameAs g) Q (55, [l0, l1, l2], st, w, k, n) = WP (MX3_isSameAs g) Q (56, [l0, l1, l2], .int 3 :: st, w, k, n) := ic_3 rfl (dt_q dX3_isSameAs_0_D 31 rfl)
theorem eX3_isSameAs_56 : WP (MX3_isSameAs g) Q (56, [l0, l1, l2], .int b :: .int a :: st, w, k, n) = if a = b then WP (MX3_isSameAs g) Q (81, [l0, l1, l2], st, w, k, n) else WP (MX3_isSameAs g) Q (59, [l0, l1, l2], st, w, k, n) := icm_e (a = b) rfl (dt_q dX3_isSameAs_0_D 32 rfl) rfl (by decide)
theorem eX3_isSameAs_59 : WP (MX3_isSameAs g) Q (59, [l0, l1, some (.int a)], st, w, k, n) = WP (MX3_isSameAs g) Q (60, [l0, l1, some (.int a)], .int a :: st, w, k, n) := iln_e rfl (dt_q dX3_isSameAs_0_D 33 rfl) rfl
theorem eX3_isSameAs_60 : WP (MX3_isSameAs g) Q (60, [l0, l1, l2], st, w, k, n) = WP (MX3_isSameAs g) Q (61, [l0, l1, l2], .int 4 :: st, w, k, n) := ic_4 rfl (dt_q dX3_isSameAs_0_D 34 rfl)
theorem eX3_isSameAs_61 : WP (MX3_isSameAs g) Q (61, [l0, l1, l2], .int b :: .int a :: st, w, k, n) = if a = b then WP (MX3_isSameAs g) Q (64, [l0, l1, l2], st, w, k, n) else WP (MX3_isSameAs g) Q (85, [l0, l1, l2], st, w, k, n) := icmn_e (a = b) rfl (dt_q dX3_isSameAs_0_D 35 rfl) rfl (by decide)
theorem eX3_isSameAs_64 : WP (MX3_isSameAs g) Q (64, [some (.ref p), l1, l2], st, w, k, n) = WP (MX3_isSameAs g) Q (65, [some (.ref p), l1, l2], .ref p :: st, w, k, n) := alnR_e rfl (dt_q dX3_isSameAs_0_D 36 rfl) rfl
theorem eX3_isSameAs_64N : WP (MX3_isSameAs g) Q (64, [some .null, l1, l2], st, w, k, n) = WP (MX3_isSameAs g) Q (65, [some .null, l1, l2], .null :: st, w, k, n) := alnN_e rfl (dt_q dX3_isSameAs_0_D 36 rfl) rfl
theorem eX3_isSameAs_65 : WP (MX3_isSameAs g) Q (65, [l0, l1, l2], .ref p :: st, w, k, n) = go (rd g w p) 7 fun fs => ∃ v, fs[2]? = some v ∧ WP (MX3_isSameAs g) Q (68, [l0, l1, l2], v :: st, w, k, n) := get_e rfl (dt_q dX3_isSameAs_0_D 37 rfl) rfl
theorem eX3_isSameAs_68 : WP (MX3_isSameAs g) Q (68, [l0, some (.int a), l2], st, w, k, n) = WP (MX3_isSameAs g) Q (69, [l0, some (.int a), l2], .int a :: st, w, k, n) := iln_e rfl (dt_q dX3_isSameAs_0_D 38 rfl) rfl
theorem eX3_isSameAs_69 {z0 : Int32} : WP (MX3_isSameAs g) Q (69, [l0, l1, l2], .int z0 :: .ref p :: st, w, k, n) = (go (rd g w p) 3 (fun _ => True) ∧ wt st ≤ 8 ∧ k + 0 ≤ 0 ∧ n + 0 ≤ 0 ∧ WP (MJx4a65c_get_915e3 g) (kx (fun v w' => WP (MX3_isSameAs g) Q (72, [l0, l1, l2], v.toList ++ st, w', k + 0, n + 0)) (fun E w' => Q (.inr E) w')) (0, [some (.ref p), some (.int z0)], [], w, 0, 0)) := csV0 (M := (MX3_isSameAs g)) (mc := (fun _ _ => 0)) (ms := (fun _ _ => 0)) (As := [.int z0]) (rest := st) (MJx4a65c_get_915e3 g) rfl rfl rfl (dt_q dX3_isSameAs_0_D 39 rfl) rfl rfl rfl rfl rfl rfl
theorem eX3_isSameAs_72N : WP (MX3_isSameAs g) Q (72, [l0, l1, l2], .null :: st, w, k, n) = WP (MX3_isSameAs g) Q (75, [l0, l1, l2], .null :: st, w, k, n) := castN_e rfl (dt_q dX3_isSameAs_72_D 0 rfl)
theorem eX3_isSameAs_72R : WP (MX3_isSameAs g) Q (72, [l0, l1, l2], .ref p :: st, w, k, n) = ((∃ x, w p = some (.inl (0, x))) ∧ WP (MX3_isSameAs g) Q (75, [l0, l1, l2], .ref p :: st, w, k, n)) := castR_e rfl (dt_q dX3_isSameAs_72_D 0 rfl) rfl
theorem eX3_isSameAs_75R {z0 : Nat} : WP (MX3_isSameAs g) Q (75, [l0, l1, l2], .ref z0 :: st, w, k, n) = (wt st ≤ 8 ∧ k + 0 ≤ 0 ∧ n + 0 ≤ 0 ∧ WP (MX3_fixed g) (kx (fun v w' => WP (MX3_isSameAs g) Q (78, [l0, l1, l2], v.toList ++ st, w', k + 0, n + 0)) (fun E w' => Q (.inr E) w')) (0, [some (.ref z0)], [], w, 0, 0)) := csS0 (M := (MX3_isSameAs g)) (mc := (fun _ _ => 0)) (ms := (fun _ _ => 0)) (As := [.ref z0]) (rest := st) (MX3_fixed g) rfl rfl rfl (dt_q dX3_isSameAs_72_D 1 rfl) rfl rfl rfl rfl rfl rfl rfl
theorem eX3_isSameAs_75N  : WP (MX3_isSameAs g) Q (75, [l0, l1, l2], .null :: st, w, k, n) = (wt st ≤ 8 ∧ k + 0 ≤ 0 ∧ n + 0 ≤ 0 ∧ WP (MX3_fixed g) (kx (fun v w' => WP (MX3_isSameAs g) Q (78, [l0, l1, l2], v.toList ++ st, w', k + 0, n + 0)) (fun E w' => Q (.inr E) w')) (0, [some .null], [], w, 0, 0)) := csS0 (M := (MX3_isSameAs g)) (mc := (fun _ _ => 0)) (ms := (fun _ _ => 0)) (As := [.null]) (rest := st) (MX3_fixed g) rfl rfl rfl (dt_q dX3_isSameAs_72_D 1 rfl) rfl rfl rfl rfl rfl rfl rfl
theorem eX3_isSameAs_78 : WP (MX3_isSameAs g) Q (78, [l0, l1, l2], .int a :: st, w, k, n) = if a = 0 then WP (MX3_isSameAs g) Q (85, [l0, l1, l2], st, w, k, n) else WP (MX3_isSameAs g) Q (81, [l0, l1, l2], st, w, k, n) := ifc_e (a = 0) rfl (dt_q dX3_isSameAs_72_D 2 rfl) rfl (by decide)
theorem eX3_isSameAs_81 : WP (MX3_isSameAs g) Q (81, [l0, l1, l2], st, w, k, n) = WP (MX3_isSameAs g) Q (82, [l0, l1, l2], .int 1 :: st, w, k, n) := ic_1 rfl (dt_q dX3_isSameAs_72_D 3 rfl)
theorem eX3_isSameAs_82 : WP (MX3_isSameAs g) Q (82, [l0, l1, l2], st, w, k, n) = WP (MX3_isSameAs g) Q (86, [l0, l1, l2], st, w, k, n) := goto_e rfl (dt_q dX3_isSameAs_72_D 4 rfl) (by decide)
theorem eX3_isSameAs_85 : WP (MX3_isSameAs g) Q (85, [l0, l1, l2], st, w, k, n) = WP (MX3_isSameAs g) Q (86, [l0, l1, l2], .int 0 :: st, w, k, n) := ic_0 rfl (dt_q dX3_isSameAs_72_D 5 rfl)
set_option maxRecDepth 20000 in
theorem eX3_isSameAs_86 : WP (MX3_isSameAs g) Q (86, [l0, l1, l2], [.int a], w, k, n) = (narrow (.boolean) (.int a) = .int a ∧ k ≤ 0 ∧ n ≤ 0 ∧ Q (.inl (some (.int a))) w) := iret_e rfl (dt_q dX3_isSameAs_72_D 6 rfl) rfl
end
theorem vMX3_isSameAs {l : Launch} (hl : l.stackTraces = false) (G : GT) : vM l G (MX3_isSameAs (gg G)) := vM_k RX3 cX3_isSameAs rfl rfl (all_c (vF_RX3_16) (all_n)) all_n all_n all_n all_n (fun h => absurd rfl h) (all_c (kc_51 hl wk_1318) (all_c (kc_39 hl wk_1228) (all_c (kc_36 hl wk_1225) (all_c (kc_35 hl wk_1232) (all_c (kc_53 hl wk_1372) (all_c (kc_37 hl wk_1376) (all_c (kc_56 hl wk_1392) (all_n)))))))) all_n (all_c (⟨.long, rfl, (fun C h => by cases h), wk_1380⟩) (all_n)) (fun h => absurd rfl h) rfl all_n
theorem okX3_isSameAs {l : Launch} (hl : l.stackTraces = false) {G : GT} : ∀ (args : List Value) (w : Hw) (S : Ot → Hw → Prop), spOf (MX3_isSameAs (gg G)) args w S → CX l G yX3_isSameAs (.code yX3_isSameAs cX3_isSameAs 3 (some .boolean)) 5 0 0 args w S := CX_sp (M := MX3_isSameAs (gg G)) (y := yX3_isSameAs) hl (by decide) rfl (vMX3_isSameAs hl G) (fun h => by cases h) rfl
abbrev dX3_likesNow_0_T : List (Nat × Instr × Nat) := [(0, .iconst 0, 1), (1, .istore_n 2, 1), (2, .iconst 0, 1), (3, .istore_n 3, 1), (4, .iload_n 3, 1), (5, .bipush 6, 2), (7, .if_icmp .ge 51, 3), (10, .aload_n 0, 1), (11, .iload_n 3, 1), (12, .invokevirtual 118, 3), (15, .ifCond .ne 37, 3), (18, .aload_n 0, 1), (19, .getfield 16, 3), (22, .iload_n 1, 1), (23, .invokevirtual 42, 3), (26, .checkcast 125, 3), (29, .aload_n 0, 1), (30, .getfield 16, 3), (33, .iload_n 3, 1), (34, .invokevirtual 42, 3), (37, .checkcast 125, 3), (40, .invokestatic 126, 3), (43, .ifCond .eq 9, 3), (46, .iload_n 2, 1), (47, .iconst 1, 1), (48, .iload_n 3, 1), (49, .ishl, 1), (50, .iadd, 1), (51, .istore_n 2, 1), (52, .iinc 3 1, 3), (55, .goto (-51), 3), (58, .iload_n 2, 1), (59, .ireturn, 1)]
theorem dX3_likesNow_0_D : dtc cX3_likesNow dX3_likesNow_0_T = true := by decide +kernel
def MX3_likesNow (g : RO) : MT := ((RX3, cX3_likesNow, 4, 5, 0, 0, false, some .int), [(16, 7, 2)], [], [], [], [], 0, [(118, 2, 2, 7, 4, (fun _ _ => 0), (fun _ _ => 0), yX3_isBare, spOf (MX3_isBare g)), (42, 2, 2, 3, 3, (fun _ _ => 0), (fun _ _ => 0), yJx4a65c_get_915e3, spOf (MJx4a65c_get_915e3 g)), (126, 0, 2, 0, 1, (fun _ _ => 0), (fun _ _ => 0), yX3_same, spOf (MX3_same g))], [], [(125, 0)], 0, [], [], g)
section
variable {g : RO} {Q : Ot → Hw → Prop} {st : List Value} {w : Hw} {k n p q : Nat} {a b : Int32} {x y : Int64} {u v : Value} {l0 l1 l2 l3 : Option Value}
theorem eX3_likesNow_0 : WP (MX3_likesNow g) Q (0, [l0, l1, l2, l3], st, w, k, n) = WP (MX3_likesNow g) Q (1, [l0, l1, l2, l3], .int 0 :: st, w, k, n) := ic_0 rfl (dt_q dX3_likesNow_0_D 0 rfl)
theorem eX3_likesNow_1 : WP (MX3_likesNow g) Q (1, [l0, l1, l2, l3], .int a :: st, w, k, n) = WP (MX3_likesNow g) Q (2, [l0, nl l1, some (.int a), l3], st, w, k, n) := isn_e rfl (dt_q dX3_likesNow_0_D 1 rfl) rfl rfl
theorem eX3_likesNow_2 : WP (MX3_likesNow g) Q (2, [l0, l1, l2, l3], st, w, k, n) = WP (MX3_likesNow g) Q (3, [l0, l1, l2, l3], .int 0 :: st, w, k, n) := ic_0 rfl (dt_q dX3_likesNow_0_D 2 rfl)
theorem eX3_likesNow_3 : WP (MX3_likesNow g) Q (3, [l0, l1, l2, l3], .int a :: st, w, k, n) = WP (MX3_likesNow g) Q (4, [l0, l1, nl l2, some (.int a)], st, w, k, n) := isn_e rfl (dt_q dX3_likesNow_0_D 3 rfl) rfl rfl
theorem eX3_likesNow_4 : WP (MX3_likesNow g) Q (4, [l0, l1, l2, some (.int a)], st, w, k, n) = WP (MX3_likesNow g) Q (5, [l0, l1, l2, some (.int a)], .int a :: st, w, k, n) := iln_e rfl (dt_q dX3_likesNow_0_D 4 rfl) rfl
theorem eX3_likesNow_5 : WP (MX3_likesNow g) Q (5, [l0, l1, l2, l3], st, w, k, n) = WP (MX3_likesNow g) Q (7, [l0, l1, l2, l3], .int 6 :: st, w, k, n) := bipush_e rfl (dt_q dX3_likesNow_0_D 5 rfl) (by decide)
theorem eX3_likesNow_7 : WP (MX3_likesNow g) Q (7, [l0, l1, l2, l3], .int b :: .int a :: st, w, k, n) = if b ≤ a then WP (MX3_likesNow g) Q (58, [l0, l1, l2, l3], st, w, k, n) else WP (MX3_likesNow g) Q (10, [l0, l1, l2, l3], st, w, k, n) := icm_e (b ≤ a) rfl (dt_q dX3_likesNow_0_D 6 rfl) rfl (by decide)
theorem eX3_likesNow_10 : WP (MX3_likesNow g) Q (10, [some (.ref p), l1, l2, l3], st, w, k, n) = WP (MX3_likesNow g) Q (11, [some (.ref p), l1, l2, l3], .ref p :: st, w, k, n) := alnR_e rfl (dt_q dX3_likesNow_0_D 7 rfl) rfl
theorem eX3_likesNow_10N : WP (MX3_likesNow g) Q (10, [some .null, l1, l2, l3], st, w, k, n) = WP (MX3_likesNow g) Q (11, [some .null, l1, l2, l3], .null :: st, w, k, n) := alnN_e rfl (dt_q dX3_likesNow_0_D 7 rfl) rfl
theorem eX3_likesNow_11 : WP (MX3_likesNow g) Q (11, [l0, l1, l2, some (.int a)], st, w, k, n) = WP (MX3_likesNow g) Q (12, [l0, l1, l2, some (.int a)], .int a :: st, w, k, n) := iln_e rfl (dt_q dX3_likesNow_0_D 8 rfl) rfl
theorem eX3_likesNow_12 {z0 : Int32} : WP (MX3_likesNow g) Q (12, [l0, l1, l2, l3], .int z0 :: .ref p :: st, w, k, n) = (go (rd g w p) 7 (fun _ => True) ∧ wt st ≤ 8 ∧ k + 0 ≤ 0 ∧ n + 0 ≤ 0 ∧ WP (MX3_isBare g) (kx (fun v w' => WP (MX3_likesNow g) Q (15, [l0, l1, l2, l3], v.toList ++ st, w', k + 0, n + 0)) (fun E w' => Q (.inr E) w')) (0, [some (.ref p), some (.int z0)], [], w, 0, 0)) := csV0 (M := (MX3_likesNow g)) (mc := (fun _ _ => 0)) (ms := (fun _ _ => 0)) (As := [.int z0]) (rest := st) (MX3_isBare g) rfl rfl rfl (dt_q dX3_likesNow_0_D 9 rfl) rfl rfl rfl rfl rfl rfl
theorem eX3_likesNow_15 : WP (MX3_likesNow g) Q (15, [l0, l1, l2, l3], .int a :: st, w, k, n) = if a = 0 then WP (MX3_likesNow g) Q (18, [l0, l1, l2, l3], st, w, k, n) else WP (MX3_likesNow g) Q (52, [l0, l1, l2, l3], st, w, k, n) := ifcn_e (a = 0) rfl (dt_q dX3_likesNow_0_D 10 rfl) rfl (by decide)
theorem eX3_likesNow_18 : WP (MX3_likesNow g) Q (18, [some (.ref p), l1, l2, l3], st, w, k, n) = WP (MX3_likesNow g) Q (19, [some (.ref p), l1, l2, l3], .ref p :: st, w, k, n) := alnR_e rfl (dt_q dX3_likesNow_0_D 11 rfl) rfl
theorem eX3_likesNow_18N : WP (MX3_likesNow g) Q (18, [some .null, l1, l2, l3], st, w, k, n) = WP (MX3_likesNow g) Q (19, [some .null, l1, l2, l3], .null :: st, w, k, n) := alnN_e rfl (dt_q dX3_likesNow_0_D 11 rfl) rfl
theorem eX3_likesNow_19 : WP (MX3_likesNow g) Q (19, [l0, l1, l2, l3], .ref p :: st, w, k, n) = go (rd g w p) 7 fun fs => ∃ v, fs[2]? = some v ∧ WP (MX3_likesNow g) Q (22, [l0, l1, l2, l3], v :: st, w, k, n) := get_e rfl (dt_q dX3_likesNow_0_D 12 rfl) rfl
theorem eX3_likesNow_22 : WP (MX3_likesNow g) Q (22, [l0, some (.int a), l2, l3], st, w, k, n) = WP (MX3_likesNow g) Q (23, [l0, some (.int a), l2, l3], .int a :: st, w, k, n) := iln_e rfl (dt_q dX3_likesNow_0_D 13 rfl) rfl
theorem eX3_likesNow_23 {z0 : Int32} : WP (MX3_likesNow g) Q (23, [l0, l1, l2, l3], .int z0 :: .ref p :: st, w, k, n) = (go (rd g w p) 3 (fun _ => True) ∧ wt st ≤ 8 ∧ k + 0 ≤ 0 ∧ n + 0 ≤ 0 ∧ WP (MJx4a65c_get_915e3 g) (kx (fun v w' => WP (MX3_likesNow g) Q (26, [l0, l1, l2, l3], v.toList ++ st, w', k + 0, n + 0)) (fun E w' => Q (.inr E) w')) (0, [some (.ref p), some (.int z0)], [], w, 0, 0)) := csV0 (M := (MX3_likesNow g)) (mc := (fun _ _ => 0)) (ms := (fun _ _ => 0)) (As := [.int z0]) (rest := st) (MJx4a65c_get_915e3 g) rfl rfl rfl (dt_q dX3_likesNow_0_D 14 rfl) rfl rfl rfl rfl rfl rfl
theorem eX3_likesNow_26N : WP (MX3_likesNow g) Q (26, [l0, l1, l2, l3], .null :: st, w, k, n) = WP (MX3_likesNow g) Q (29, [l0, l1, l2, l3], .null :: st, w, k, n) := castN_e rfl (dt_q dX3_likesNow_0_D 15 rfl)
theorem eX3_likesNow_26R : WP (MX3_likesNow g) Q (26, [l0, l1, l2, l3], .ref p :: st, w, k, n) = ((∃ x, w p = some (.inl (0, x))) ∧ WP (MX3_likesNow g) Q (29, [l0, l1, l2, l3], .ref p :: st, w, k, n)) := castR_e rfl (dt_q dX3_likesNow_0_D 15 rfl) rfl
theorem eX3_likesNow_29 : WP (MX3_likesNow g) Q (29, [some (.ref p), l1, l2, l3], st, w, k, n) = WP (MX3_likesNow g) Q (30, [some (.ref p), l1, l2, l3], .ref p :: st, w, k, n) := alnR_e rfl (dt_q dX3_likesNow_0_D 16 rfl) rfl
theorem eX3_likesNow_29N : WP (MX3_likesNow g) Q (29, [some .null, l1, l2, l3], st, w, k, n) = WP (MX3_likesNow g) Q (30, [some .null, l1, l2, l3], .null :: st, w, k, n) := alnN_e rfl (dt_q dX3_likesNow_0_D 16 rfl) rfl
theorem eX3_likesNow_30 : WP (MX3_likesNow g) Q (30, [l0, l1, l2, l3], .ref p :: st, w, k, n) = go (rd g w p) 7 fun fs => ∃ v, fs[2]? = some v ∧ WP (MX3_likesNow g) Q (33, [l0, l1, l2, l3], v :: st, w, k, n) := get_e rfl (dt_q dX3_likesNow_0_D 17 rfl) rfl
theorem eX3_likesNow_33 : WP (MX3_likesNow g) Q (33, [l0, l1, l2, some (.int a)], st, w, k, n) = WP (MX3_likesNow g) Q (34, [l0, l1, l2, some (.int a)], .int a :: st, w, k, n) := iln_e rfl (dt_q dX3_likesNow_0_D 18 rfl) rfl
theorem eX3_likesNow_34 {z0 : Int32} : WP (MX3_likesNow g) Q (34, [l0, l1, l2, l3], .int z0 :: .ref p :: st, w, k, n) = (go (rd g w p) 3 (fun _ => True) ∧ wt st ≤ 8 ∧ k + 0 ≤ 0 ∧ n + 0 ≤ 0 ∧ WP (MJx4a65c_get_915e3 g) (kx (fun v w' => WP (MX3_likesNow g) Q (37, [l0, l1, l2, l3], v.toList ++ st, w', k + 0, n + 0)) (fun E w' => Q (.inr E) w')) (0, [some (.ref p), some (.int z0)], [], w, 0, 0)) := csV0 (M := (MX3_likesNow g)) (mc := (fun _ _ => 0)) (ms := (fun _ _ => 0)) (As := [.int z0]) (rest := st) (MJx4a65c_get_915e3 g) rfl rfl rfl (dt_q dX3_likesNow_0_D 19 rfl) rfl rfl rfl rfl rfl rfl
theorem eX3_likesNow_37N : WP (MX3_likesNow g) Q (37, [l0, l1, l2, l3], .null :: st, w, k, n) = WP (MX3_likesNow g) Q (40, [l0, l1, l2, l3], .null :: st, w, k, n) := castN_e rfl (dt_q dX3_likesNow_0_D 20 rfl)
theorem eX3_likesNow_37R : WP (MX3_likesNow g) Q (37, [l0, l1, l2, l3], .ref p :: st, w, k, n) = ((∃ x, w p = some (.inl (0, x))) ∧ WP (MX3_likesNow g) Q (40, [l0, l1, l2, l3], .ref p :: st, w, k, n)) := castR_e rfl (dt_q dX3_likesNow_0_D 20 rfl) rfl
theorem eX3_likesNow_40RR {z0 : Nat} {z1 : Nat} : WP (MX3_likesNow g) Q (40, [l0, l1, l2, l3], .ref z1 :: .ref z0 :: st, w, k, n) = (wt st ≤ 8 ∧ k + 0 ≤ 0 ∧ n + 0 ≤ 0 ∧ WP (MX3_same g) (kx (fun v w' => WP (MX3_likesNow g) Q (43, [l0, l1, l2, l3], v.toList ++ st, w', k + 0, n + 0)) (fun E w' => Q (.inr E) w')) (0, [some (.ref z0), some (.ref z1), none, none], [], w, 0, 0)) := csS0 (M := (MX3_likesNow g)) (mc := (fun _ _ => 0)) (ms := (fun _ _ => 0)) (As := [.ref z0, .ref z1]) (rest := st) (MX3_same g) rfl rfl rfl (dt_q dX3_likesNow_0_D 21 rfl) rfl rfl rfl rfl rfl rfl rfl
theorem eX3_likesNow_40NR {z1 : Nat} : WP (MX3_likesNow g) Q (40, [l0, l1, l2, l3], .ref z1 :: .null :: st, w, k, n) = (wt st ≤ 8 ∧ k + 0 ≤ 0 ∧ n + 0 ≤ 0 ∧ WP (MX3_same g) (kx (fun v w' => WP (MX3_likesNow g) Q (43, [l0, l1, l2, l3], v.toList ++ st, w', k + 0, n + 0)) (fun E w' => Q (.inr E) w')) (0, [some .null, some (.ref z1), none, none], [], w, 0, 0)) := csS0 (M := (MX3_likesNow g)) (mc := (fun _ _ => 0)) (ms := (fun _ _ => 0)) (As := [.null, .ref z1]) (rest := st) (MX3_same g) rfl rfl rfl (dt_q dX3_likesNow_0_D 21 rfl) rfl rfl rfl rfl rfl rfl rfl
theorem eX3_likesNow_40RN {z0 : Nat} : WP (MX3_likesNow g) Q (40, [l0, l1, l2, l3], .null :: .ref z0 :: st, w, k, n) = (wt st ≤ 8 ∧ k + 0 ≤ 0 ∧ n + 0 ≤ 0 ∧ WP (MX3_same g) (kx (fun v w' => WP (MX3_likesNow g) Q (43, [l0, l1, l2, l3], v.toList ++ st, w', k + 0, n + 0)) (fun E w' => Q (.inr E) w')) (0, [some (.ref z0), some .null, none, none], [], w, 0, 0)) := csS0 (M := (MX3_likesNow g)) (mc := (fun _ _ => 0)) (ms := (fun _ _ => 0)) (As := [.ref z0, .null]) (rest := st) (MX3_same g) rfl rfl rfl (dt_q dX3_likesNow_0_D 21 rfl) rfl rfl rfl rfl rfl rfl rfl
theorem eX3_likesNow_40NN  : WP (MX3_likesNow g) Q (40, [l0, l1, l2, l3], .null :: .null :: st, w, k, n) = (wt st ≤ 8 ∧ k + 0 ≤ 0 ∧ n + 0 ≤ 0 ∧ WP (MX3_same g) (kx (fun v w' => WP (MX3_likesNow g) Q (43, [l0, l1, l2, l3], v.toList ++ st, w', k + 0, n + 0)) (fun E w' => Q (.inr E) w')) (0, [some .null, some .null, none, none], [], w, 0, 0)) := csS0 (M := (MX3_likesNow g)) (mc := (fun _ _ => 0)) (ms := (fun _ _ => 0)) (As := [.null, .null]) (rest := st) (MX3_same g) rfl rfl rfl (dt_q dX3_likesNow_0_D 21 rfl) rfl rfl rfl rfl rfl rfl rfl
theorem eX3_likesNow_43 : WP (MX3_likesNow g) Q (43, [l0, l1, l2, l3], .int a :: st, w, k, n) = if a = 0 then WP (MX3_likesNow g) Q (52, [l0, l1, l2, l3], st, w, k, n) else WP (MX3_likesNow g) Q (46, [l0, l1, l2, l3], st, w, k, n) := ifc_e (a = 0) rfl (dt_q dX3_likesNow_0_D 22 rfl) rfl (by decide)
theorem eX3_likesNow_46 : WP (MX3_likesNow g) Q (46, [l0, l1, some (.int a), l3], st, w, k, n) = WP (MX3_likesNow g) Q (47, [l0, l1, some (.int a), l3], .int a :: st, w, k, n) := iln_e rfl (dt_q dX3_likesNow_0_D 23 rfl) rfl
theorem eX3_likesNow_47 : WP (MX3_likesNow g) Q (47, [l0, l1, l2, l3], st, w, k, n) = WP (MX3_likesNow g) Q (48, [l0, l1, l2, l3], .int 1 :: st, w, k, n) := ic_1 rfl (dt_q dX3_likesNow_0_D 24 rfl)
theorem eX3_likesNow_48 : WP (MX3_likesNow g) Q (48, [l0, l1, l2, some (.int a)], st, w, k, n) = WP (MX3_likesNow g) Q (49, [l0, l1, l2, some (.int a)], .int a :: st, w, k, n) := iln_e rfl (dt_q dX3_likesNow_0_D 25 rfl) rfl
theorem eX3_likesNow_49 : WP (MX3_likesNow g) Q (49, [l0, l1, l2, l3], .int b :: .int a :: st, w, k, n) = WP (MX3_likesNow g) Q (50, [l0, l1, l2, l3], .int (a <<< (b &&& 31)) :: st, w, k, n) := ishl_e rfl (dt_q dX3_likesNow_0_D 26 rfl)
theorem eX3_likesNow_50 : WP (MX3_likesNow g) Q (50, [l0, l1, l2, l3], .int b :: .int a :: st, w, k, n) = WP (MX3_likesNow g) Q (51, [l0, l1, l2, l3], .int (a + b) :: st, w, k, n) := iadd_e rfl (dt_q dX3_likesNow_0_D 27 rfl)
theorem eX3_likesNow_51 : WP (MX3_likesNow g) Q (51, [l0, l1, l2, l3], .int a :: st, w, k, n) = WP (MX3_likesNow g) Q (52, [l0, nl l1, some (.int a), l3], st, w, k, n) := isn_e rfl (dt_q dX3_likesNow_0_D 28 rfl) rfl rfl
theorem eX3_likesNow_52 : WP (MX3_likesNow g) Q (52, [l0, l1, l2, some (.int a)], st, w, k, n) = WP (MX3_likesNow g) Q (55, [l0, l1, nl l2, some (.int (a + 1))], st, w, k, n) := Eq.trans (iinc_e (M := (MX3_likesNow g)) (L := [l0, l1, l2, some (.int a)]) (d := 1) rfl (dt_q dX3_likesNow_0_D 29 rfl) (by decide) rfl) rfl
theorem eX3_likesNow_55 : WP (MX3_likesNow g) Q (55, [l0, l1, l2, l3], st, w, k, n) = WP (MX3_likesNow g) Q (4, [l0, l1, l2, l3], st, w, k, n) := goto_e rfl (dt_q dX3_likesNow_0_D 30 rfl) (by decide)
theorem eX3_likesNow_58 : WP (MX3_likesNow g) Q (58, [l0, l1, some (.int a), l3], st, w, k, n) = WP (MX3_likesNow g) Q (59, [l0, l1, some (.int a), l3], .int a :: st, w, k, n) := iln_e rfl (dt_q dX3_likesNow_0_D 31 rfl) rfl
set_option maxRecDepth 20000 in
theorem eX3_likesNow_59 : WP (MX3_likesNow g) Q (59, [l0, l1, l2, l3], [.int a], w, k, n) = (k ≤ 0 ∧ n ≤ 0 ∧ Q (.inl (some (.int a))) w) := iretI_e rfl (dt_q dX3_likesNow_0_D 32 rfl) rfl
end
theorem vMX3_likesNow {l : Launch} (hl : l.stackTraces = false) (G : GT) : vM l G (MX3_likesNow (gg G)) := vM_k RX3 cX3_likesNow rfl rfl (all_c (vF_RX3_16) (all_n)) all_n all_n all_n all_n (fun h => absurd rfl h) (all_c (kc_53 hl wk_1372) (all_c (kc_37 hl wk_1376) (all_c (kc_55 hl wk_1385) (all_n)))) all_n (all_c (⟨.long, rfl, (fun C h => by cases h), wk_1380⟩) (all_n)) (fun h => absurd rfl h) rfl all_n
theorem okX3_likesNow {l : Launch} (hl : l.stackTraces = false) {G : GT} : ∀ (args : List Value) (w : Hw) (S : Ot → Hw → Prop), spOf (MX3_likesNow (gg G)) args w S → CX l G yX3_likesNow (.code yX3_likesNow cX3_likesNow 4 (some .int)) 5 0 0 args w S := CX_sp (M := MX3_likesNow (gg G)) (y := yX3_likesNow) hl (by decide) rfl (vMX3_likesNow hl G) (fun h => by cases h) rfl
abbrev dX3_likes_0_T : List (Nat × Instr × Nat) := [(0, .aload_n 0, 1), (1, .iload_n 1, 1), (2, .invokevirtual 134, 3), (5, .ifCond .eq 7, 3), (8, .iconst 0, 1), (9, .goto 8, 3), (12, .aload_n 0, 1), (13, .iload_n 1, 1), (14, .invokevirtual 171, 3), (17, .ireturn, 1)]
theorem dX3_likes_0_D : dtc cX3_likes dX3_likes_0_T = true := by decide +kernel
def MX3_likes (g : RO) : MT := ((RX3, cX3_likes, 2, 6, 0, 0, false, some .int), [], [], [], [], [], 0, [(134, 2, 2, 7, 5, (fun _ _ => 0), (fun _ _ => 0), yX3_isNone, spOf (MX3_isNone g)), (171, 2, 2, 7, 5, (fun _ _ => 0), (fun _ _ => 0), yX3_likesNow, spOf (MX3_likesNow g))], [], [], 0, [], [], g)
section
variable {g : RO} {Q : Ot → Hw → Prop} {st : List Value} {w : Hw} {k n p q : Nat} {a b : Int32} {x y : Int64} {u v : Value} {l0 l1 : Option Value}
theorem eX3_likes_0 : WP (MX3_likes g) Q (0, [some (.ref p), l1], st, w, k, n) = WP (MX3_likes g) Q (1, [some (.ref p), l1], .ref p :: st, w, k, n) := alnR_e rfl (dt_q dX3_likes_0_D 0 rfl) rfl
theorem eX3_likes_0N : WP (MX3_likes g) Q (0, [some .null, l1], st, w, k, n) = WP (MX3_likes g) Q (1, [some .null, l1], .null :: st, w, k, n) := alnN_e rfl (dt_q dX3_likes_0_D 0 rfl) rfl
theorem eX3_likes_1 : WP (MX3_likes g) Q (1, [l0, some (.int a)], st, w, k, n) = WP (MX3_likes g) Q (2, [l0, some (.int a)], .int a :: st, w, k, n) := iln_e rfl (dt_q dX3_likes_0_D 1 rfl) rfl
theorem eX3_likes_2 {z0 : Int32} : WP (MX3_likes g) Q (2, [l0, l1], .int z0 :: .ref p :: st, w, k, n) = (go (rd g w p) 7 (fun _ => True) ∧ wt st ≤ 8 ∧ k + 0 ≤ 0 ∧ n + 0 ≤ 0 ∧ WP (MX3_isNone g) (kx (fun v w' => WP (MX3_likes g) Q (5, [l0, l1], v.toList ++ st, w', k + 0, n + 0)) (fun E w' => Q (.inr E) w')) (0, [some (.ref p), some (.int z0)], [], w, 0, 0)) := csV0 (M := (MX3_likes g)) (mc := (fun _ _ => 0)) (ms := (fun _ _ => 0)) (As := [.int z0]) (rest := st) (MX3_isNone g) rfl rfl rfl (dt_q dX3_likes_0_D 2 rfl) rfl rfl rfl rfl rfl rfl
theorem eX3_likes_5 : WP (MX3_likes g) Q (5, [l0, l1], .int a :: st, w, k, n) = if a = 0 then WP (MX3_likes g) Q (12, [l0, l1], st, w, k, n) else WP (MX3_likes g) Q (8, [l0, l1], st, w, k, n) := ifc_e (a = 0) rfl (dt_q dX3_likes_0_D 3 rfl) rfl (by decide)
theorem eX3_likes_8 : WP (MX3_likes g) Q (8, [l0, l1], st, w, k, n) = WP (MX3_likes g) Q (9, [l0, l1], .int 0 :: st, w, k, n) := ic_0 rfl (dt_q dX3_likes_0_D 4 rfl)
theorem eX3_likes_9 : WP (MX3_likes g) Q (9, [l0, l1], st, w, k, n) = WP (MX3_likes g) Q (17, [l0, l1], st, w, k, n) := goto_e rfl (dt_q dX3_likes_0_D 5 rfl) (by decide)
theorem eX3_likes_12 : WP (MX3_likes g) Q (12, [some (.ref p), l1], st, w, k, n) = WP (MX3_likes g) Q (13, [some (.ref p), l1], .ref p :: st, w, k, n) := alnR_e rfl (dt_q dX3_likes_0_D 6 rfl) rfl
theorem eX3_likes_12N : WP (MX3_likes g) Q (12, [some .null, l1], st, w, k, n) = WP (MX3_likes g) Q (13, [some .null, l1], .null :: st, w, k, n) := alnN_e rfl (dt_q dX3_likes_0_D 6 rfl) rfl
theorem eX3_likes_13 : WP (MX3_likes g) Q (13, [l0, some (.int a)], st, w, k, n) = WP (MX3_likes g) Q (14, [l0, some (.int a)], .int a :: st, w, k, n) := iln_e rfl (dt_q dX3_likes_0_D 7 rfl) rfl
theorem eX3_likes_14 {z0 : Int32} : WP (MX3_likes g) Q (14, [l0, l1], .int z0 :: .ref p :: st, w, k, n) = (go (rd g w p) 7 (fun _ => True) ∧ wt st ≤ 8 ∧ k + 0 ≤ 0 ∧ n + 0 ≤ 0 ∧ WP (MX3_likesNow g) (kx (fun v w' => WP (MX3_likes g) Q (17, [l0, l1], v.toList ++ st, w', k + 0, n + 0)) (fun E w' => Q (.inr E) w')) (0, [some (.ref p), some (.int z0), none, none], [], w, 0, 0)) := csV0 (M := (MX3_likes g)) (mc := (fun _ _ => 0)) (ms := (fun _ _ => 0)) (As := [.int z0]) (rest := st) (MX3_likesNow g) rfl rfl rfl (dt_q dX3_likes_0_D 8 rfl) rfl rfl rfl rfl rfl rfl
theorem eX3_likes_17 : WP (MX3_likes g) Q (17, [l0, l1], [.int a], w, k, n) = (k ≤ 0 ∧ n ≤ 0 ∧ Q (.inl (some (.int a))) w) := iretI_e rfl (dt_q dX3_likes_0_D 9 rfl) rfl
end
theorem wk_1515 : (.code yX3_likesNow cX3_likesNow 4 (some .int) : Jvm.Cond) ∈ WS := WS_t7 17 rfl rfl
theorem wk_1512 : (.methodLink RX3 171 yX3_likesNow : Jvm.Cond) ∈ WS := WS_t7 14 rfl rfl
theorem wk_1514 : (.instanceMethod yX3_likesNow : Jvm.Cond) ∈ WS := WS_t7 16 rfl rfl
theorem wk_49 : (.selects RX3 yX3_likesNow yX3_likesNow : Jvm.Cond) ∈ WS := WS_at 49 (by decide +kernel) rfl
theorem kc_67 {l : Launch} (hl : l.stackTraces = false) {G : GT} {own : String} {i : Nat} (hw : Jvm.Cond.methodLink own i yX3_likesNow ∈ WS) : vCal l G own i (2, 2, 7, 5, (fun _ _ => 0), (fun _ _ => 0), yX3_likesNow, spOf (MX3_likesNow (gg G))) := ⟨cX3_likesNow, 4, some .int, fun y hy => by subst hy; exact ⟨by decide, ⟨_, wk_1515, okX3_likesNow hl, Or.inl ⟨Nat.ne_of_beq_eq_false rfl, rfl⟩⟩, wk_60, nc13, ⟨(by decide +kernel : (parseMethodDescriptor yX3_likesNow.desc).map (fun d => d.parameters.length + 1) = some 2), hw, wk_1514, wk_49, (RX3, TX3, 7), rfl, rfl⟩⟩⟩
theorem vMX3_likes {l : Launch} (hl : l.stackTraces = false) (G : GT) : vM l G (MX3_likes (gg G)) := vM_k RX3 cX3_likes rfl rfl all_n all_n all_n all_n all_n (fun h => absurd rfl h) (all_c (kc_57 hl wk_1407) (all_c (kc_67 hl wk_1512) (all_n))) all_n all_n (fun h => absurd rfl h) rfl all_n
theorem okX3_likes {l : Launch} (hl : l.stackTraces = false) {G : GT} : ∀ (args : List Value) (w : Hw) (S : Ot → Hw → Prop), spOf (MX3_likes (gg G)) args w S → CX l G yX3_likes (.code yX3_likes cX3_likes 2 (some .int)) 6 0 0 args w S := CX_sp (M := MX3_likes (gg G)) (y := yX3_likes) hl (by decide) rfl (vMX3_likes hl G) (fun h => by cases h) rfl
end
/-! 40.model11.lean.txt -/
section
abbrev dX3_lay_0_T : List (Nat × Instr × Nat) := [(0, .aload_n 0, 1), (1, .iload_n 1, 1), (2, .invokevirtual 134, 3), (5, .ifCond .eq 5, 3), (8, .iconst 0, 1), (9, .ireturn, 1), (10, .aload_n 0, 1), (11, .getfield 20, 3), (14, .invokevirtual 174, 3), (17, .bipush 12, 2), (19, .if_icmp .ne 8, 3), (22, .aload_n 0, 1), (23, .invokevirtual 100, 3), (26, .ireturn, 1), (27, .aload_n 0, 1), (28, .getfield 20, 3), (31, .aload_n 0, 1), (32, .getfield 16, 3), (35, .iload_n 1, 1), (36, .invokevirtual 42, 3), (39, .checkcast 125, 3), (42, .invokevirtual 23, 3), (45, .pop, 1), (46, .aload_n 0, 1), (47, .getfield 20, 3), (50, .invokevirtual 174, 3), (53, .ireturn, 1)]
theorem dX3_lay_0_D : dtc cX3_lay dX3_lay_0_T = true := by decide +kernel
def MX3_lay (g : RO) : MT := ((RX3, cX3_lay, 2, 7, 1, 15, false, some .int), [(20, 7, 3), (16, 7, 2)], [], [], [], [], 0, [(134, 2, 2, 7, 5, (fun _ _ => 0), (fun _ _ => 0), yX3_isNone, spOf (MX3_isNone g)), (174, 2, 1, 3, 1, (fun _ _ => 0), (fun _ _ => 0), yJx4a65c_size_8abf5, spOf (MJx4a65c_size_8abf5 g)), (100, 2, 1, 7, 1, (fun _ _ => 0), (fun _ _ => 0), yX3_no, spOf (MX3_no g)), (42, 2, 2, 3, 3, (fun _ _ => 0), (fun _ _ => 0), yJx4a65c_get_915e3, spOf (MJx4a65c_get_915e3 g)), (23, 2, 2, 3, 6, (fun _ _ => 1), (fun _ _ => 15), yJx4a65c_add_9ea2d, spOf (MJx4a65c_add_9ea2d g))], [], [(125, 0)], 0, [], [], g)
section
variable {g : RO} {Q : Ot → Hw → Prop} {st : List Value} {w : Hw} {k n p q : Nat} {a b : Int32} {x y : Int64} {u v : Value} {l0 l1 : Option Value}
theorem eX3_lay_0 : WP (MX3_lay g) Q (0, [some (.ref p), l1], st, w, k, n) = WP (MX3_lay g) Q (1, [some (.ref p), l1], .ref p :: st, w, k, n) := alnR_e rfl (dt_q dX3_lay_0_D 0 rfl) rfl
theorem eX3_lay_0N : WP (MX3_lay g) Q (0, [some .null, l1], st, w, k, n) = WP (MX3_lay g) Q (1, [some .null, l1], .null :: st, w, k, n) := alnN_e rfl (dt_q dX3_lay_0_D 0 rfl) rfl
theorem eX3_lay_1 : WP (MX3_lay g) Q (1, [l0, some (.int a)], st, w, k, n) = WP (MX3_lay g) Q (2, [l0, some (.int a)], .int a :: st, w, k, n) := iln_e rfl (dt_q dX3_lay_0_D 1 rfl) rfl
theorem eX3_lay_2 {z0 : Int32} : WP (MX3_lay g) Q (2, [l0, l1], .int z0 :: .ref p :: st, w, k, n) = (go (rd g w p) 7 (fun _ => True) ∧ wt st ≤ 8 ∧ k + 0 ≤ 1 ∧ n + 0 ≤ 15 ∧ WP (MX3_isNone g) (kx (fun v w' => WP (MX3_lay g) Q (5, [l0, l1], v.toList ++ st, w', k + 0, n + 0)) (fun E w' => Q (.inr E) w')) (0, [some (.ref p), some (.int z0)], [], w, 0, 0)) := csV0 (M := (MX3_lay g)) (mc := (fun _ _ => 0)) (ms := (fun _ _ => 0)) (As := [.int z0]) (rest := st) (MX3_isNone g) rfl rfl rfl (dt_q dX3_lay_0_D 2 rfl) rfl rfl rfl rfl rfl rfl
theorem eX3_lay_5 : WP (MX3_lay g) Q (5, [l0, l1], .int a :: st, w, k, n) = if a = 0 then WP (MX3_lay g) Q (10, [l0, l1], st, w, k, n) else WP (MX3_lay g) Q (8, [l0, l1], st, w, k, n) := ifc_e (a = 0) rfl (dt_q dX3_lay_0_D 3 rfl) rfl (by decide)
theorem eX3_lay_8 : WP (MX3_lay g) Q (8, [l0, l1], st, w, k, n) = WP (MX3_lay g) Q (9, [l0, l1], .int 0 :: st, w, k, n) := ic_0 rfl (dt_q dX3_lay_0_D 4 rfl)
theorem eX3_lay_9 : WP (MX3_lay g) Q (9, [l0, l1], [.int a], w, k, n) = (k ≤ 1 ∧ n ≤ 15 ∧ Q (.inl (some (.int a))) w) := iretI_e rfl (dt_q dX3_lay_0_D 5 rfl) rfl
theorem eX3_lay_10 : WP (MX3_lay g) Q (10, [some (.ref p), l1], st, w, k, n) = WP (MX3_lay g) Q (11, [some (.ref p), l1], .ref p :: st, w, k, n) := alnR_e rfl (dt_q dX3_lay_0_D 6 rfl) rfl
theorem eX3_lay_10N : WP (MX3_lay g) Q (10, [some .null, l1], st, w, k, n) = WP (MX3_lay g) Q (11, [some .null, l1], .null :: st, w, k, n) := alnN_e rfl (dt_q dX3_lay_0_D 6 rfl) rfl
theorem eX3_lay_11 : WP (MX3_lay g) Q (11, [l0, l1], .ref p :: st, w, k, n) = go (rd g w p) 7 fun fs => ∃ v, fs[3]? = some v ∧ WP (MX3_lay g) Q (14, [l0, l1], v :: st, w, k, n) := get_e rfl (dt_q dX3_lay_0_D 7 rfl) rfl
theorem eX3_lay_14  : WP (MX3_lay g) Q (14, [l0, l1], .ref p :: st, w, k, n) = (go (rd g w p) 3 (fun _ => True) ∧ wt st ≤ 8 ∧ k + 0 ≤ 1 ∧ n + 0 ≤ 15 ∧ WP (MJx4a65c_size_8abf5 g) (kx (fun v w' => WP (MX3_lay g) Q (17, [l0, l1], v.toList ++ st, w', k + 0, n + 0)) (fun E w' => Q (.inr E) w')) (0, [some (.ref p)], [], w, 0, 0)) := csV0 (M := (MX3_lay g)) (mc := (fun _ _ => 0)) (ms := (fun _ _ => 0)) (As := []) (rest := st) (MJx4a65c_size_8abf5 g) rfl rfl rfl (dt_q dX3_lay_0_D 8 rfl) rfl rfl rfl rfl rfl rfl
theorem eX3_lay_17 : WP (MX3_lay g) Q (17, [l0, l1], st, w, k, n) = WP (MX3_lay g) Q (19, [l0, l1], .int 12 :: st, w, k, n) := bipush_e rfl (dt_q dX3_lay_0_D 9 rfl) (by decide)
theorem eX3_lay_19 : WP (MX3_lay g) Q (19, [l0, l1], .int b :: .int a :: st, w, k, n) = if a = b then WP (MX3_lay g) Q (22, [l0, l1], st, w, k, n) else WP (MX3_lay g) Q (27, [l0, l1], st, w, k, n) := icmn_e (a = b) rfl (dt_q dX3_lay_0_D 10 rfl) rfl (by decide)
theorem eX3_lay_22 : WP (MX3_lay g) Q (22, [some (.ref p), l1], st, w, k, n) = WP (MX3_lay g) Q (23, [some (.ref p), l1], .ref p :: st, w, k, n) := alnR_e rfl (dt_q dX3_lay_0_D 11 rfl) rfl
theorem eX3_lay_22N : WP (MX3_lay g) Q (22, [some .null, l1], st, w, k, n) = WP (MX3_lay g) Q (23, [some .null, l1], .null :: st, w, k, n) := alnN_e rfl (dt_q dX3_lay_0_D 11 rfl) rfl
theorem eX3_lay_23  : WP (MX3_lay g) Q (23, [l0, l1], .ref p :: st, w, k, n) = (go (rd g w p) 7 (fun _ => True) ∧ wt st ≤ 8 ∧ k + 0 ≤ 1 ∧ n + 0 ≤ 15 ∧ WP (MX3_no g) (kx (fun v w' => WP (MX3_lay g) Q (26, [l0, l1], v.toList ++ st, w', k + 0, n + 0)) (fun E w' => Q (.inr E) w')) (0, [some (.ref p)], [], w, 0, 0)) := csV0 (M := (MX3_lay g)) (mc := (fun _ _ => 0)) (ms := (fun _ _ => 0)) (As := []) (rest := st) (MX3_no g) rfl rfl rfl (dt_q dX3_lay_0_D 12 rfl) rfl rfl rfl rfl rfl rfl
theorem eX3_lay_26 : WP (MX3_lay g) Q (26, [l0, l1], [.int a], w, k, n) = (k ≤ 1 ∧ n ≤ 15 ∧ Q (.inl (some (.int a))) w) := iretI_e rfl (dt_q dX3_lay_0_D 13 rfl) rfl
theorem eX3_lay_27 : WP (MX3_lay g) Q (27, [some (.ref p), l1], st, w, k, n) = WP (MX3_lay g) Q (28, [some (.ref p), l1], .ref p :: st, w, k, n) := alnR_e rfl (dt_q dX3_lay_0_D 14 rfl) rfl
theorem eX3_lay_27N : WP (MX3_lay g) Q (27, [some .null, l1], st, w, k, n) = WP (MX3_lay g) Q (28, [some .null, l1], .null :: st, w, k, n) := alnN_e rfl (dt_q dX3_lay_0_D 14 rfl) rfl
theorem eX3_lay_28 : WP (MX3_lay g) Q (28, [l0, l1], .ref p :: st, w, k, n) = go (rd g w p) 7 fun fs => ∃ v, fs[3]? = some v ∧ WP (MX3_lay g) Q (31, [l0, l1], v :: st, w, k, n) := get_e rfl (dt_q dX3_lay_0_D 15 rfl) rfl
theorem eX3_lay_31 : WP (MX3_lay g) Q (31, [some (.ref p), l1], st, w, k, n) = WP (MX3_lay g) Q (32, [some (.ref p), l1], .ref p :: st, w, k, n) := alnR_e rfl (dt_q dX3_lay_0_D 16 rfl) rfl
theorem eX3_lay_31N : WP (MX3_lay g) Q (31, [some .null, l1], st, w, k, n) = WP (MX3_lay g) Q (32, [some .null, l1], .null :: st, w, k, n) := alnN_e rfl (dt_q dX3_lay_0_D 16 rfl) rfl
theorem eX3_lay_32 : WP (MX3_lay g) Q (32, [l0, l1], .ref p :: st, w, k, n) = go (rd g w p) 7 fun fs => ∃ v, fs[2]? = some v ∧ WP (MX3_lay g) Q (35, [l0, l1], v :: st, w, k, n) := get_e rfl (dt_q dX3_lay_0_D 17 rfl) rfl
theorem eX3_lay_35 : WP (MX3_lay g) Q (35, [l0, some (.int a)], st, w, k, n) = WP (MX3_lay g) Q (36, [l0, some (.int a)], .int a :: st, w, k, n) := iln_e rfl (dt_q dX3_lay_0_D 18 rfl) rfl
theorem eX3_lay_36 {z0 : Int32} : WP (MX3_lay g) Q (36, [l0, l1], .int z0 :: .ref p :: st, w, k, n) = (go (rd g w p) 3 (fun _ => True) ∧ wt st ≤ 8 ∧ k + 0 ≤ 1 ∧ n + 0 ≤ 15 ∧ WP (MJx4a65c_get_915e3 g) (kx (fun v w' => WP (MX3_lay g) Q (39, [l0, l1], v.toList ++ st, w', k + 0, n + 0)) (fun E w' => Q (.inr E) w')) (0, [some (.ref p), some (.int z0)], [], w, 0, 0)) := csV0 (M := (MX3_lay g)) (mc := (fun _ _ => 0)) (ms := (fun _ _ => 0)) (As := [.int z0]) (rest := st) (MJx4a65c_get_915e3 g) rfl rfl rfl (dt_q dX3_lay_0_D 19 rfl) rfl rfl rfl rfl rfl rfl
theorem eX3_lay_39N : WP (MX3_lay g) Q (39, [l0, l1], .null :: st, w, k, n) = WP (MX3_lay g) Q (42, [l0, l1], .null :: st, w, k, n) := castN_e rfl (dt_q dX3_lay_0_D 20 rfl)
theorem eX3_lay_39R : WP (MX3_lay g) Q (39, [l0, l1], .ref p :: st, w, k, n) = ((∃ x, w p = some (.inl (0, x))) ∧ WP (MX3_lay g) Q (42, [l0, l1], .ref p :: st, w, k, n)) := castR_e rfl (dt_q dX3_lay_0_D 20 rfl) rfl
theorem eX3_lay_42R {z0 : Nat} : WP (MX3_lay g) Q (42, [l0, l1], .ref z0 :: .ref p :: st, w, k, n) = (go (rd g w p) 3 (fun _ => True) ∧ wt st ≤ 8 ∧ k + 1 ≤ 1 ∧ n + 15 ≤ 15 ∧ WP (MJx4a65c_add_9ea2d g) (kx (fun v w' => WP (MX3_lay g) Q (45, [l0, l1], v.toList ++ st, w', k + 1, n + 15)) (fun E w' => Q (.inr E) w')) (0, [some (.ref p), some (.ref z0)], [], w, 0, 0)) := csV0 (M := (MX3_lay g)) (mc := (fun _ _ => 1)) (ms := (fun _ _ => 15)) (As := [.ref z0]) (rest := st) (MJx4a65c_add_9ea2d g) rfl rfl rfl (dt_q dX3_lay_0_D 21 rfl) rfl rfl rfl rfl rfl rfl
theorem eX3_lay_42N  : WP (MX3_lay g) Q (42, [l0, l1], .null :: .ref p :: st, w, k, n) = (go (rd g w p) 3 (fun _ => True) ∧ wt st ≤ 8 ∧ k + 1 ≤ 1 ∧ n + 15 ≤ 15 ∧ WP (MJx4a65c_add_9ea2d g) (kx (fun v w' => WP (MX3_lay g) Q (45, [l0, l1], v.toList ++ st, w', k + 1, n + 15)) (fun E w' => Q (.inr E) w')) (0, [some (.ref p), some .null], [], w, 0, 0)) := csV0 (M := (MX3_lay g)) (mc := (fun _ _ => 1)) (ms := (fun _ _ => 15)) (As := [.null]) (rest := st) (MJx4a65c_add_9ea2d g) rfl rfl rfl (dt_q dX3_lay_0_D 21 rfl) rfl rfl rfl rfl rfl rfl
theorem eX3_lay_45 : WP (MX3_lay g) Q (45, [l0, l1], .int a :: st, w, k, n) = WP (MX3_lay g) Q (46, [l0, l1], st, w, k, n) := popI_e rfl (dt_q dX3_lay_0_D 22 rfl)
theorem eX3_lay_45R : WP (MX3_lay g) Q (45, [l0, l1], .ref p :: st, w, k, n) = WP (MX3_lay g) Q (46, [l0, l1], st, w, k, n) := popR_e rfl (dt_q dX3_lay_0_D 22 rfl)
theorem eX3_lay_45N : WP (MX3_lay g) Q (45, [l0, l1], .null :: st, w, k, n) = WP (MX3_lay g) Q (46, [l0, l1], st, w, k, n) := popN_e rfl (dt_q dX3_lay_0_D 22 rfl)
theorem eX3_lay_46 : WP (MX3_lay g) Q (46, [some (.ref p), l1], st, w, k, n) = WP (MX3_lay g) Q (47, [some (.ref p), l1], .ref p :: st, w, k, n) := alnR_e rfl (dt_q dX3_lay_0_D 23 rfl) rfl
theorem eX3_lay_46N : WP (MX3_lay g) Q (46, [some .null, l1], st, w, k, n) = WP (MX3_lay g) Q (47, [some .null, l1], .null :: st, w, k, n) := alnN_e rfl (dt_q dX3_lay_0_D 23 rfl) rfl
theorem eX3_lay_47 : WP (MX3_lay g) Q (47, [l0, l1], .ref p :: st, w, k, n) = go (rd g w p) 7 fun fs => ∃ v, fs[3]? = some v ∧ WP (MX3_lay g) Q (50, [l0, l1], v :: st, w, k, n) := get_e rfl (dt_q dX3_lay_0_D 24 rfl) rfl
theorem eX3_lay_50  : WP (MX3_lay g) Q (50, [l0, l1], .ref p :: st, w, k, n) = (go (rd g w p) 3 (fun _ => True) ∧ wt st ≤ 8 ∧ k + 0 ≤ 1 ∧ n + 0 ≤ 15 ∧ WP (MJx4a65c_size_8abf5 g) (kx (fun v w' => WP (MX3_lay g) Q (53, [l0, l1], v.toList ++ st, w', k + 0, n + 0)) (fun E w' => Q (.inr E) w')) (0, [some (.ref p)], [], w, 0, 0)) := csV0 (M := (MX3_lay g)) (mc := (fun _ _ => 0)) (ms := (fun _ _ => 0)) (As := []) (rest := st) (MJx4a65c_size_8abf5 g) rfl rfl rfl (dt_q dX3_lay_0_D 25 rfl) rfl rfl rfl rfl rfl rfl
set_option maxRecDepth 20000 in
theorem eX3_lay_53 : WP (MX3_lay g) Q (53, [l0, l1], [.int a], w, k, n) = (k ≤ 1 ∧ n ≤ 15 ∧ Q (.inl (some (.int a))) w) := iretI_e rfl (dt_q dX3_lay_0_D 26 rfl) rfl
end
theorem wk_1523 : (.code yJx4a65c_size_8abf5 cJx4a65c_size_8abf5 1 (some .int) : Jvm.Cond) ∈ WS := WS_t7 25 rfl rfl
theorem wk_1520 : (.methodLink RX3 174 yJx4a65c_size_8abf5 : Jvm.Cond) ∈ WS := WS_t7 22 rfl rfl
theorem wk_1521 : (.instanceMethod yJx4a65c_size_8abf5 : Jvm.Cond) ∈ WS := WS_t7 23 rfl rfl
theorem wk_1522 : (.selects RJx4a65c yJx4a65c_size_8abf5 yJx4a65c_size_8abf5 : Jvm.Cond) ∈ WS := WS_t7 24 rfl rfl
theorem kc_68 {l : Launch} (hl : l.stackTraces = false) {G : GT} {own : String} {i : Nat} (hw : Jvm.Cond.methodLink own i yJx4a65c_size_8abf5 ∈ WS) : vCal l G own i (2, 1, 3, 1, (fun _ _ => 0), (fun _ _ => 0), yJx4a65c_size_8abf5, spOf (MJx4a65c_size_8abf5 (gg G))) := ⟨cJx4a65c_size_8abf5, 1, some .int, fun y hy => by subst hy; exact ⟨by decide, ⟨_, wk_1523, okJx4a65c_size_8abf5 hl, Or.inl ⟨Nat.ne_of_beq_eq_false rfl, rfl⟩⟩, wk_63, nc6, ⟨(by decide +kernel : (parseMethodDescriptor yJx4a65c_size_8abf5.desc).map (fun d => d.parameters.length + 1) = some 1), hw, wk_1521, wk_1522, (RJx4a65c, TJx4a65c, 3), rfl, rfl⟩⟩⟩
theorem vMX3_lay {l : Launch} (hl : l.stackTraces = false) (G : GT) : vM l G (MX3_lay (gg G)) := vM_k RX3 cX3_lay rfl rfl (all_c (vF_RX3_20) (all_c (vF_RX3_16) (all_n))) all_n all_n all_n all_n (fun h => absurd rfl h) (all_c (kc_57 hl wk_1407) (all_c (kc_68 hl wk_1520) (all_c (kc_49 hl wk_1328) (all_c (kc_37 hl wk_1376) (all_c (kc_34 hl wk_1149) (all_n)))))) all_n (all_c (⟨.long, rfl, (fun C h => by cases h), wk_1380⟩) (all_n)) (fun h => absurd rfl h) rfl all_n
theorem okX3_lay {l : Launch} (hl : l.stackTraces = false) {G : GT} : ∀ (args : List Value) (w : Hw) (S : Ot → Hw → Prop), spOf (MX3_lay (gg G)) args w S → CX l G yX3_lay (.code yX3_lay cX3_lay 2 (some .int)) 7 1 15 args w S := CX_sp (M := MX3_lay (gg G)) (y := yX3_lay) hl (by decide) rfl (vMX3_lay hl G) (fun h => by cases h) rfl
abbrev dX3_seekNow_0_T : List (Nat × Instr × Nat) := [(0, .iconst (-1), 1), (1, .istore_n 3, 1), (2, .iconst 0, 1), (3, .istore 4, 2), (5, .iload 4, 2), (7, .aload_n 0, 1), (8, .getfield 20, 3), (11, .invokevirtual 174, 3), (14, .if_icmp .ge 50, 3), (17, .aload_n 0, 1), (18, .getfield 20, 3), (21, .iload 4, 2), (23, .invokevirtual 42, 3), (26, .checkcast 125, 3), (29, .aload_n 0, 1), (30, .getfield 16, 3), (33, .iload_n 1, 1), (34, .invokevirtual 42, 3), (37, .checkcast 125, 3), (40, .invokestatic 126, 3), (43, .ifCond .eq 15, 3), (46, .iload_n 2, 1), (47, .ifCond .ne 8, 3), (50, .iload_n 3, 1), (51, .iconst (-1), 1), (52, .if_icmp .ne 6, 3), (55, .iload 4, 2), (57, .istore_n 3, 1), (58, .iinc 4 1, 3), (61, .goto (-56), 3), (64, .iload_n 3, 1), (65, .ireturn, 1)]
theorem dX3_seekNow_0_D : dtc cX3_seekNow dX3_seekNow_0_T = true := by decide +kernel
def MX3_seekNow (g : RO) : MT := ((RX3, cX3_seekNow, 5, 4, 0, 0, false, some .int), [(20, 7, 3), (16, 7, 2)], [], [], [], [], 0, [(174, 2, 1, 3, 1, (fun _ _ => 0), (fun _ _ => 0), yJx4a65c_size_8abf5, spOf (MJx4a65c_size_8abf5 g)), (42, 2, 2, 3, 3, (fun _ _ => 0), (fun _ _ => 0), yJx4a65c_get_915e3, spOf (MJx4a65c_get_915e3 g)), (126, 0, 2, 0, 1, (fun _ _ => 0), (fun _ _ => 0), yX3_same, spOf (MX3_same g))], [], [(125, 0)], 0, [], [], g)
section
variable {g : RO} {Q : Ot → Hw → Prop} {st : List Value} {w : Hw} {k n p q : Nat} {a b : Int32} {x y : Int64} {u v : Value} {l0 l1 l2 l3 l4 : Option Value}
theorem eX3_seekNow_0 : WP (MX3_seekNow g) Q (0, [l0, l1, l2, l3, l4], st, w, k, n) = WP (MX3_seekNow g) Q (1, [l0, l1, l2, l3, l4], .int (-1) :: st, w, k, n) := ic_m rfl (dt_q dX3_seekNow_0_D 0 rfl)
theorem eX3_seekNow_1 : WP (MX3_seekNow g) Q (1, [l0, l1, l2, l3, l4], .int a :: st, w, k, n) = WP (MX3_seekNow g) Q (2, [l0, l1, nl l2, some (.int a), l4], st, w, k, n) := isn_e rfl (dt_q dX3_seekNow_0_D 1 rfl) rfl rfl
theorem eX3_seekNow_2 : WP (MX3_seekNow g) Q (2, [l0, l1, l2, l3, l4], st, w, k, n) = WP (MX3_seekNow g) Q (3, [l0, l1, l2, l3, l4], .int 0 :: st, w, k, n) := ic_0 rfl (dt_q dX3_seekNow_0_D 2 rfl)
theorem eX3_seekNow_3 : WP (MX3_seekNow g) Q (3, [l0, l1, l2, l3, l4], .int a :: st, w, k, n) = WP (MX3_seekNow g) Q (5, [l0, l1, l2, nl l3, some (.int a)], st, w, k, n) := is_e rfl (dt_q dX3_seekNow_0_D 3 rfl) rfl rfl
theorem eX3_seekNow_5 : WP (MX3_seekNow g) Q (5, [l0, l1, l2, l3, some (.int a)], st, w, k, n) = WP (MX3_seekNow g) Q (7, [l0, l1, l2, l3, some (.int a)], .int a :: st, w, k, n) := il_e rfl (dt_q dX3_seekNow_0_D 4 rfl) rfl
theorem eX3_seekNow_7 : WP (MX3_seekNow g) Q (7, [some (.ref p), l1, l2, l3, l4], st, w, k, n) = WP (MX3_seekNow g) Q (8, [some (.ref p), l1, l2, l3, l4], .ref p :: st, w, k, n) := alnR_e rfl (dt_q dX3_seekNow_0_D 5 rfl) rfl
theorem eX3_seekNow_7N : WP (MX3_seekNow g) Q (7, [some .null, l1, l2, l3, l4], st, w, k, n) = WP (MX3_seekNow g) Q (8, [some .null, l1, l2, l3, l4], .null :: st, w, k, n) := alnN_e rfl (dt_q dX3_seekNow_0_D 5 rfl) rfl
theorem eX3_seekNow_8 : WP (MX3_seekNow g) Q (8, [l0, l1, l2, l3, l4], .ref p :: st, w, k, n) = go (rd g w p) 7 fun fs => ∃ v, fs[3]? = some v ∧ WP (MX3_seekNow g) Q (11, [l0, l1, l2, l3, l4], v :: st, w, k, n) := get_e rfl (dt_q dX3_seekNow_0_D 6 rfl) rfl
theorem eX3_seekNow_11  : WP (MX3_seekNow g) Q (11, [l0, l1, l2, l3, l4], .ref p :: st, w, k, n) = (go (rd g w p) 3 (fun _ => True) ∧ wt st ≤ 8 ∧ k + 0 ≤ 0 ∧ n + 0 ≤ 0 ∧ WP (MJx4a65c_size_8abf5 g) (kx (fun v w' => WP (MX3_seekNow g) Q (14, [l0, l1, l2, l3, l4], v.toList ++ st, w', k + 0, n + 0)) (fun E w' => Q (.inr E) w')) (0, [some (.ref p)], [], w, 0, 0)) := csV0 (M := (MX3_seekNow g)) (mc := (fun _ _ => 0)) (ms := (fun _ _ => 0)) (As := []) (rest := st) (MJx4a65c_size_8abf5 g) rfl rfl rfl (dt_q dX3_seekNow_0_D 7 rfl) rfl rfl rfl rfl rfl rfl
theorem eX3_seekNow_14 : WP (MX3_seekNow g) Q (14, [l0, l1, l2, l3, l4], .int b :: .int a :: st, w, k, n) = if b ≤ a then WP (MX3_seekNow g) Q (64, [l0, l1, l2, l3, l4], st, w, k, n) else WP (MX3_seekNow g) Q (17, [l0, l1, l2, l3, l4], st, w, k, n) := icm_e (b ≤ a) rfl (dt_q dX3_seekNow_0_D 8 rfl) rfl (by decide)
theorem eX3_seekNow_17 : WP (MX3_seekNow g) Q (17, [some (.ref p), l1, l2, l3, l4], st, w, k, n) = WP (MX3_seekNow g) Q (18, [some (.ref p), l1, l2, l3, l4], .ref p :: st, w, k, n) := alnR_e rfl (dt_q dX3_seekNow_0_D 9 rfl) rfl
theorem eX3_seekNow_17N : WP (MX3_seekNow g) Q (17, [some .null, l1, l2, l3, l4], st, w, k, n) = WP (MX3_seekNow g) Q (18, [some .null, l1, l2, l3, l4], .null :: st, w, k, n) := alnN_e rfl (dt_q dX3_seekNow_0_D 9 rfl) rfl
theorem eX3_seekNow_18 : WP (MX3_seekNow g) Q (18, [l0, l1, l2, l3, l4], .ref p :: st, w, k, n) = go (rd g w p) 7 fun fs => ∃ v, fs[3]? = some v ∧ WP (MX3_seekNow g) Q (21, [l0, l1, l2, l3, l4], v :: st, w, k, n) := get_e rfl (dt_q dX3_seekNow_0_D 10 rfl) rfl
theorem eX3_seekNow_21 : WP (MX3_seekNow g) Q (21, [l0, l1, l2, l3, some (.int a)], st, w, k, n) = WP (MX3_seekNow g) Q (23, [l0, l1, l2, l3, some (.int a)], .int a :: st, w, k, n) := il_e rfl (dt_q dX3_seekNow_0_D 11 rfl) rfl
theorem eX3_seekNow_23 {z0 : Int32} : WP (MX3_seekNow g) Q (23, [l0, l1, l2, l3, l4], .int z0 :: .ref p :: st, w, k, n) = (go (rd g w p) 3 (fun _ => True) ∧ wt st ≤ 8 ∧ k + 0 ≤ 0 ∧ n + 0 ≤ 0 ∧ WP (MJx4a65c_get_915e3 g) (kx (fun v w' => WP (MX3_seekNow g) Q (26, [l0, l1, l2, l3, l4], v.toList ++ st, w', k + 0, n + 0)) (fun E w' => Q (.inr E) w')) (0, [some (.ref p), some (.int z0)], [], w, 0, 0)) := csV0 (M := (MX3_seekNow g)) (mc := (fun _ _ => 0)) (ms := (fun _ _ => 0)) (As := [.int z0]) (rest := st) (MJx4a65c_get_915e3 g) rfl rfl rfl (dt_q dX3_seekNow_0_D 12 rfl) rfl rfl rfl rfl rfl rfl
theorem eX3_seekNow_26N : WP (MX3_seekNow g) Q (26, [l0, l1, l2, l3, l4], .null :: st, w, k, n) = WP (MX3_seekNow g) Q (29, [l0, l1, l2, l3, l4], .null :: st, w, k, n) := castN_e rfl (dt_q dX3_seekNow_0_D 13 rfl)
theorem eX3_seekNow_26R : WP (MX3_seekNow g) Q (26, [l0, l1, l2, l3, l4], .ref p :: st, w, k, n) = ((∃ x, w p = some (.inl (0, x))) ∧ WP (MX3_seekNow g) Q (29, [l0, l1, l2, l3, l4], .ref p :: st, w, k, n)) := castR_e rfl (dt_q dX3_seekNow_0_D 13 rfl) rfl
theorem eX3_seekNow_29 : WP (MX3_seekNow g) Q (29, [some (.ref p), l1, l2, l3, l4], st, w, k, n) = WP (MX3_seekNow g) Q (30, [some (.ref p), l1, l2, l3, l4], .ref p :: st, w, k, n) := alnR_e rfl (dt_q dX3_seekNow_0_D 14 rfl) rfl
theorem eX3_seekNow_29N : WP (MX3_seekNow g) Q (29, [some .null, l1, l2, l3, l4], st, w, k, n) = WP (MX3_seekNow g) Q (30, [some .null, l1, l2, l3, l4], .null :: st, w, k, n) := alnN_e rfl (dt_q dX3_seekNow_0_D 14 rfl) rfl
theorem eX3_seekNow_30 : WP (MX3_seekNow g) Q (30, [l0, l1, l2, l3, l4], .ref p :: st, w, k, n) = go (rd g w p) 7 fun fs => ∃ v, fs[2]? = some v ∧ WP (MX3_seekNow g) Q (33, [l0, l1, l2, l3, l4], v :: st, w, k, n) := get_e rfl (dt_q dX3_seekNow_0_D 15 rfl) rfl
theorem eX3_seekNow_33 : WP (MX3_seekNow g) Q (33, [l0, some (.int a), l2, l3, l4], st, w, k, n) = WP (MX3_seekNow g) Q (34, [l0, some (.int a), l2, l3, l4], .int a :: st, w, k, n) := iln_e rfl (dt_q dX3_seekNow_0_D 16 rfl) rfl
theorem eX3_seekNow_34 {z0 : Int32} : WP (MX3_seekNow g) Q (34, [l0, l1, l2, l3, l4], .int z0 :: .ref p :: st, w, k, n) = (go (rd g w p) 3 (fun _ => True) ∧ wt st ≤ 8 ∧ k + 0 ≤ 0 ∧ n + 0 ≤ 0 ∧ WP (MJx4a65c_get_915e3 g) (kx (fun v w' => WP (MX3_seekNow g) Q (37, [l0, l1, l2, l3, l4], v.toList ++ st, w', k + 0, n + 0)) (fun E w' => Q (.inr E) w')) (0, [some (.ref p), some (.int z0)], [], w, 0, 0)) := csV0 (M := (MX3_seekNow g)) (mc := (fun _ _ => 0)) (ms := (fun _ _ => 0)) (As := [.int z0]) (rest := st) (MJx4a65c_get_915e3 g) rfl rfl rfl (dt_q dX3_seekNow_0_D 17 rfl) rfl rfl rfl rfl rfl rfl
theorem eX3_seekNow_37N : WP (MX3_seekNow g) Q (37, [l0, l1, l2, l3, l4], .null :: st, w, k, n) = WP (MX3_seekNow g) Q (40, [l0, l1, l2, l3, l4], .null :: st, w, k, n) := castN_e rfl (dt_q dX3_seekNow_0_D 18 rfl)
theorem eX3_seekNow_37R : WP (MX3_seekNow g) Q (37, [l0, l1, l2, l3, l4], .ref p :: st, w, k, n) = ((∃ x, w p = some (.inl (0, x))) ∧ WP (MX3_seekNow g) Q (40, [l0, l1, l2, l3, l4], .ref p :: st, w, k, n)) := castR_e rfl (dt_q dX3_seekNow_0_D 18 rfl) rfl
theorem eX3_seekNow_40RR {z0 : Nat} {z1 : Nat} : WP (MX3_seekNow g) Q (40, [l0, l1, l2, l3, l4], .ref z1 :: .ref z0 :: st, w, k, n) = (wt st ≤ 8 ∧ k + 0 ≤ 0 ∧ n + 0 ≤ 0 ∧ WP (MX3_same g) (kx (fun v w' => WP (MX3_seekNow g) Q (43, [l0, l1, l2, l3, l4], v.toList ++ st, w', k + 0, n + 0)) (fun E w' => Q (.inr E) w')) (0, [some (.ref z0), some (.ref z1), none, none], [], w, 0, 0)) := csS0 (M := (MX3_seekNow g)) (mc := (fun _ _ => 0)) (ms := (fun _ _ => 0)) (As := [.ref z0, .ref z1]) (rest := st) (MX3_same g) rfl rfl rfl (dt_q dX3_seekNow_0_D 19 rfl) rfl rfl rfl rfl rfl rfl rfl
theorem eX3_seekNow_40NR {z1 : Nat} : WP (MX3_seekNow g) Q (40, [l0, l1, l2, l3, l4], .ref z1 :: .null :: st, w, k, n) = (wt st ≤ 8 ∧ k + 0 ≤ 0 ∧ n + 0 ≤ 0 ∧ WP (MX3_same g) (kx (fun v w' => WP (MX3_seekNow g) Q (43, [l0, l1, l2, l3, l4], v.toList ++ st, w', k + 0, n + 0)) (fun E w' => Q (.inr E) w')) (0, [some .null, some (.ref z1), none, none], [], w, 0, 0)) := csS0 (M := (MX3_seekNow g)) (mc := (fun _ _ => 0)) (ms := (fun _ _ => 0)) (As := [.null, .ref z1]) (rest := st) (MX3_same g) rfl rfl rfl (dt_q dX3_seekNow_0_D 19 rfl) rfl rfl rfl rfl rfl rfl rfl
theorem eX3_seekNow_40RN {z0 : Nat} : WP (MX3_seekNow g) Q (40, [l0, l1, l2, l3, l4], .null :: .ref z0 :: st, w, k, n) = (wt st ≤ 8 ∧ k + 0 ≤ 0 ∧ n + 0 ≤ 0 ∧ WP (MX3_same g) (kx (fun v w' => WP (MX3_seekNow g) Q (43, [l0, l1, l2, l3, l4], v.toList ++ st, w', k + 0, n + 0)) (fun E w' => Q (.inr E) w')) (0, [some (.ref z0), some .null, none, none], [], w, 0, 0)) := csS0 (M := (MX3_seekNow g)) (mc := (fun _ _ => 0)) (ms := (fun _ _ => 0)) (As := [.ref z0, .null]) (rest := st) (MX3_same g) rfl rfl rfl (dt_q dX3_seekNow_0_D 19 rfl) rfl rfl rfl rfl rfl rfl rfl
theorem eX3_seekNow_40NN  : WP (MX3_seekNow g) Q (40, [l0, l1, l2, l3, l4], .null :: .null :: st, w, k, n) = (wt st ≤ 8 ∧ k + 0 ≤ 0 ∧ n + 0 ≤ 0 ∧ WP (MX3_same g) (kx (fun v w' => WP (MX3_seekNow g) Q (43, [l0, l1, l2, l3, l4], v.toList ++ st, w', k + 0, n + 0)) (fun E w' => Q (.inr E) w')) (0, [some .null, some .null, none, none], [], w, 0, 0)) := csS0 (M := (MX3_seekNow g)) (mc := (fun _ _ => 0)) (ms := (fun _ _ => 0)) (As := [.null, .null]) (rest := st) (MX3_same g) rfl rfl rfl (dt_q dX3_seekNow_0_D 19 rfl) rfl rfl rfl rfl rfl rfl rfl
theorem eX3_seekNow_43 : WP (MX3_seekNow g) Q (43, [l0, l1, l2, l3, l4], .int a :: st, w, k, n) = if a = 0 then WP (MX3_seekNow g) Q (58, [l0, l1, l2, l3, l4], st, w, k, n) else WP (MX3_seekNow g) Q (46, [l0, l1, l2, l3, l4], st, w, k, n) := ifc_e (a = 0) rfl (dt_q dX3_seekNow_0_D 20 rfl) rfl (by decide)
theorem eX3_seekNow_46 : WP (MX3_seekNow g) Q (46, [l0, l1, some (.int a), l3, l4], st, w, k, n) = WP (MX3_seekNow g) Q (47, [l0, l1, some (.int a), l3, l4], .int a :: st, w, k, n) := iln_e rfl (dt_q dX3_seekNow_0_D 21 rfl) rfl
theorem eX3_seekNow_47 : WP (MX3_seekNow g) Q (47, [l0, l1, l2, l3, l4], .int a :: st, w, k, n) = if a = 0 then WP (MX3_seekNow g) Q (50, [l0, l1, l2, l3, l4], st, w, k, n) else WP (MX3_seekNow g) Q (55, [l0, l1, l2, l3, l4], st, w, k, n) := ifcn_e (a = 0) rfl (dt_q dX3_seekNow_0_D 22 rfl) rfl (by decide)
theorem eX3_seekNow_50 : WP (MX3_seekNow g) Q (50, [l0, l1, l2, some (.int a), l4], st, w, k, n) = WP (MX3_seekNow g) Q (51, [l0, l1, l2, some (.int a), l4], .int a :: st, w, k, n) := iln_e rfl (dt_q dX3_seekNow_0_D 23 rfl) rfl
theorem eX3_seekNow_51 : WP (MX3_seekNow g) Q (51, [l0, l1, l2, l3, l4], st, w, k, n) = WP (MX3_seekNow g) Q (52, [l0, l1, l2, l3, l4], .int (-1) :: st, w, k, n) := ic_m rfl (dt_q dX3_seekNow_0_D 24 rfl)
theorem eX3_seekNow_52 : WP (MX3_seekNow g) Q (52, [l0, l1, l2, l3, l4], .int b :: .int a :: st, w, k, n) = if a = b then WP (MX3_seekNow g) Q (55, [l0, l1, l2, l3, l4], st, w, k, n) else WP (MX3_seekNow g) Q (58, [l0, l1, l2, l3, l4], st, w, k, n) := icmn_e (a = b) rfl (dt_q dX3_seekNow_0_D 25 rfl) rfl (by decide)
theorem eX3_seekNow_55 : WP (MX3_seekNow g) Q (55, [l0, l1, l2, l3, some (.int a)], st, w, k, n) = WP (MX3_seekNow g) Q (57, [l0, l1, l2, l3, some (.int a)], .int a :: st, w, k, n) := il_e rfl (dt_q dX3_seekNow_0_D 26 rfl) rfl
theorem eX3_seekNow_57 : WP (MX3_seekNow g) Q (57, [l0, l1, l2, l3, l4], .int a :: st, w, k, n) = WP (MX3_seekNow g) Q (58, [l0, l1, nl l2, some (.int a), l4], st, w, k, n) := isn_e rfl (dt_q dX3_seekNow_0_D 27 rfl) rfl rfl
theorem eX3_seekNow_58 : WP (MX3_seekNow g) Q (58, [l0, l1, l2, l3, some (.int a)], st, w, k, n) = WP (MX3_seekNow g) Q (61, [l0, l1, l2, nl l3, some (.int (a + 1))], st, w, k, n) := Eq.trans (iinc_e (M := (MX3_seekNow g)) (L := [l0, l1, l2, l3, some (.int a)]) (d := 1) rfl (dt_q dX3_seekNow_0_D 28 rfl) (by decide) rfl) rfl
theorem eX3_seekNow_61 : WP (MX3_seekNow g) Q (61, [l0, l1, l2, l3, l4], st, w, k, n) = WP (MX3_seekNow g) Q (5, [l0, l1, l2, l3, l4], st, w, k, n) := goto_e rfl (dt_q dX3_seekNow_0_D 29 rfl) (by decide)
theorem eX3_seekNow_64 : WP (MX3_seekNow g) Q (64, [l0, l1, l2, some (.int a), l4], st, w, k, n) = WP (MX3_seekNow g) Q (65, [l0, l1, l2, some (.int a), l4], .int a :: st, w, k, n) := iln_e rfl (dt_q dX3_seekNow_0_D 30 rfl) rfl
set_option maxRecDepth 20000 in
theorem eX3_seekNow_65 : WP (MX3_seekNow g) Q (65, [l0, l1, l2, l3, l4], [.int a], w, k, n) = (k ≤ 0 ∧ n ≤ 0 ∧ Q (.inl (some (.int a))) w) := iretI_e rfl (dt_q dX3_seekNow_0_D 31 rfl) rfl
end
theorem vMX3_seekNow {l : Launch} (hl : l.stackTraces = false) (G : GT) : vM l G (MX3_seekNow (gg G)) := vM_k RX3 cX3_seekNow rfl rfl (all_c (vF_RX3_20) (all_c (vF_RX3_16) (all_n))) all_n all_n all_n all_n (fun h => absurd rfl h) (all_c (kc_68 hl wk_1520) (all_c (kc_37 hl wk_1376) (all_c (kc_55 hl wk_1385) (all_n)))) all_n (all_c (⟨.long, rfl, (fun C h => by cases h), wk_1380⟩) (all_n)) (fun h => absurd rfl h) rfl all_n
theorem okX3_seekNow {l : Launch} (hl : l.stackTraces = false) {G : GT} : ∀ (args : List Value) (w : Hw) (S : Ot → Hw → Prop), spOf (MX3_seekNow (gg G)) args w S → CX l G yX3_seekNow (.code yX3_seekNow cX3_seekNow 5 (some .int)) 4 0 0 args w S := CX_sp (M := MX3_seekNow (gg G)) (y := yX3_seekNow) hl (by decide) rfl (vMX3_seekNow hl G) (fun h => by cases h) rfl
abbrev dX3_seek_0_T : List (Nat × Instr × Nat) := [(0, .aload_n 0, 1), (1, .iload_n 1, 1), (2, .invokevirtual 134, 3), (5, .ifCond .eq 7, 3), (8, .iconst 0, 1), (9, .goto 9, 3), (12, .aload_n 0, 1), (13, .iload_n 1, 1), (14, .iload_n 2, 1), (15, .invokevirtual 177, 3), (18, .ireturn, 1)]
theorem dX3_seek_0_D : dtc cX3_seek dX3_seek_0_T = true := by decide +kernel
def MX3_seek (g : RO) : MT := ((RX3, cX3_seek, 3, 6, 0, 0, false, some .int), [], [], [], [], [], 0, [(134, 2, 2, 7, 5, (fun _ _ => 0), (fun _ _ => 0), yX3_isNone, spOf (MX3_isNone g)), (177, 2, 3, 7, 4, (fun _ _ => 0), (fun _ _ => 0), yX3_seekNow, spOf (MX3_seekNow g))], [], [], 0, [], [], g)
section
variable {g : RO} {Q : Ot → Hw → Prop} {st : List Value} {w : Hw} {k n p q : Nat} {a b : Int32} {x y : Int64} {u v : Value} {l0 l1 l2 : Option Value}
theorem eX3_seek_0 : WP (MX3_seek g) Q (0, [some (.ref p), l1, l2], st, w, k, n) = WP (MX3_seek g) Q (1, [some (.ref p), l1, l2], .ref p :: st, w, k, n) := alnR_e rfl (dt_q dX3_seek_0_D 0 rfl) rfl
theorem eX3_seek_0N : WP (MX3_seek g) Q (0, [some .null, l1, l2], st, w, k, n) = WP (MX3_seek g) Q (1, [some .null, l1, l2], .null :: st, w, k, n) := alnN_e rfl (dt_q dX3_seek_0_D 0 rfl) rfl
theorem eX3_seek_1 : WP (MX3_seek g) Q (1, [l0, some (.int a), l2], st, w, k, n) = WP (MX3_seek g) Q (2, [l0, some (.int a), l2], .int a :: st, w, k, n) := iln_e rfl (dt_q dX3_seek_0_D 1 rfl) rfl
theorem eX3_seek_2 {z0 : Int32} : WP (MX3_seek g) Q (2, [l0, l1, l2], .int z0 :: .ref p :: st, w, k, n) = (go (rd g w p) 7 (fun _ => True) ∧ wt st ≤ 8 ∧ k + 0 ≤ 0 ∧ n + 0 ≤ 0 ∧ WP (MX3_isNone g) (kx (fun v w' => WP (MX3_seek g) Q (5, [l0, l1, l2], v.toList ++ st, w', k + 0, n + 0)) (fun E w' => Q (.inr E) w')) (0, [some (.ref p), some (.int z0)], [], w, 0, 0)) := csV0 (M := (MX3_seek g)) (mc := (fun _ _ => 0)) (ms := (fun _ _ => 0)) (As := [.int z0]) (rest := st) (MX3_isNone g) rfl rfl rfl (dt_q dX3_seek_0_D 2 rfl) rfl rfl rfl rfl rfl rfl
theorem eX3_seek_5 : WP (MX3_seek g) Q (5, [l0, l1, l2], .int a :: st, w, k, n) = if a = 0 then WP (MX3_seek g) Q (12, [l0, l1, l2], st, w, k, n) else WP (MX3_seek g) Q (8, [l0, l1, l2], st, w, k, n) := ifc_e (a = 0) rfl (dt_q dX3_seek_0_D 3 rfl) rfl (by decide)
theorem eX3_seek_8 : WP (MX3_seek g) Q (8, [l0, l1, l2], st, w, k, n) = WP (MX3_seek g) Q (9, [l0, l1, l2], .int 0 :: st, w, k, n) := ic_0 rfl (dt_q dX3_seek_0_D 4 rfl)
theorem eX3_seek_9 : WP (MX3_seek g) Q (9, [l0, l1, l2], st, w, k, n) = WP (MX3_seek g) Q (18, [l0, l1, l2], st, w, k, n) := goto_e rfl (dt_q dX3_seek_0_D 5 rfl) (by decide)
theorem eX3_seek_12 : WP (MX3_seek g) Q (12, [some (.ref p), l1, l2], st, w, k, n) = WP (MX3_seek g) Q (13, [some (.ref p), l1, l2], .ref p :: st, w, k, n) := alnR_e rfl (dt_q dX3_seek_0_D 6 rfl) rfl
theorem eX3_seek_12N : WP (MX3_seek g) Q (12, [some .null, l1, l2], st, w, k, n) = WP (MX3_seek g) Q (13, [some .null, l1, l2], .null :: st, w, k, n) := alnN_e rfl (dt_q dX3_seek_0_D 6 rfl) rfl
theorem eX3_seek_13 : WP (MX3_seek g) Q (13, [l0, some (.int a), l2], st, w, k, n) = WP (MX3_seek g) Q (14, [l0, some (.int a), l2], .int a :: st, w, k, n) := iln_e rfl (dt_q dX3_seek_0_D 7 rfl) rfl
theorem eX3_seek_14 : WP (MX3_seek g) Q (14, [l0, l1, some (.int a)], st, w, k, n) = WP (MX3_seek g) Q (15, [l0, l1, some (.int a)], .int a :: st, w, k, n) := iln_e rfl (dt_q dX3_seek_0_D 8 rfl) rfl
theorem eX3_seek_15 {z0 : Int32} {z1 : Int32} : WP (MX3_seek g) Q (15, [l0, l1, l2], .int z1 :: .int z0 :: .ref p :: st, w, k, n) = (go (rd g w p) 7 (fun _ => True) ∧ wt st ≤ 8 ∧ k + 0 ≤ 0 ∧ n + 0 ≤ 0 ∧ WP (MX3_seekNow g) (kx (fun v w' => WP (MX3_seek g) Q (18, [l0, l1, l2], v.toList ++ st, w', k + 0, n + 0)) (fun E w' => Q (.inr E) w')) (0, [some (.ref p), some (.int z0), some (.int z1), none, none], [], w, 0, 0)) := csV0 (M := (MX3_seek g)) (mc := (fun _ _ => 0)) (ms := (fun _ _ => 0)) (As := [.int z0, .int z1]) (rest := st) (MX3_seekNow g) rfl rfl rfl (dt_q dX3_seek_0_D 9 rfl) rfl rfl rfl rfl rfl rfl
theorem eX3_seek_18 : WP (MX3_seek g) Q (18, [l0, l1, l2], [.int a], w, k, n) = (k ≤ 0 ∧ n ≤ 0 ∧ Q (.inl (some (.int a))) w) := iretI_e rfl (dt_q dX3_seek_0_D 10 rfl) rfl
end
theorem wk_1531 : (.code yX3_seekNow cX3_seekNow 5 (some .int) : Jvm.Cond) ∈ WS := WS_t7 33 rfl rfl
theorem wk_1528 : (.methodLink RX3 177 yX3_seekNow : Jvm.Cond) ∈ WS := WS_t7 30 rfl rfl
theorem wk_1530 : (.instanceMethod yX3_seekNow : Jvm.Cond) ∈ WS := WS_t7 32 rfl rfl
theorem wk_50 : (.selects RX3 yX3_seekNow yX3_seekNow : Jvm.Cond) ∈ WS := WS_at 50 (by decide +kernel) rfl
theorem kc_69 {l : Launch} (hl : l.stackTraces = false) {G : GT} {own : String} {i : Nat} (hw : Jvm.Cond.methodLink own i yX3_seekNow ∈ WS) : vCal l G own i (2, 3, 7, 4, (fun _ _ => 0), (fun _ _ => 0), yX3_seekNow, spOf (MX3_seekNow (gg G))) := ⟨cX3_seekNow, 5, some .int, fun y hy => by subst hy; exact ⟨by decide, ⟨_, wk_1531, okX3_seekNow hl, Or.inl ⟨Nat.ne_of_beq_eq_false rfl, rfl⟩⟩, wk_60, nc13, ⟨(by decide +kernel : (parseMethodDescriptor yX3_seekNow.desc).map (fun d => d.parameters.length + 1) = some 3), hw, wk_1530, wk_50, (RX3, TX3, 7), rfl, rfl⟩⟩⟩
theorem vMX3_seek {l : Launch} (hl : l.stackTraces = false) (G : GT) : vM l G (MX3_seek (gg G)) := vM_k RX3 cX3_seek rfl rfl all_n all_n all_n all_n all_n (fun h => absurd rfl h) (all_c (kc_57 hl wk_1407) (all_c (kc_69 hl wk_1528) (all_n))) all_n all_n (fun h => absurd rfl h) rfl all_n
theorem okX3_seek {l : Launch} (hl : l.stackTraces = false) {G : GT} : ∀ (args : List Value) (w : Hw) (S : Ot → Hw → Prop), spOf (MX3_seek (gg G)) args w S → CX l G yX3_seek (.code yX3_seek cX3_seek 3 (some .int)) 6 0 0 args w S := CX_sp (M := MX3_seek (gg G)) (y := yX3_seek) hl (by decide) rfl (vMX3_seek hl G) (fun h => by cases h) rfl
abbrev dX3_oftenNow_0_T : List (Nat × Instr × Nat) := [(0, .iconst 0, 1), (1, .istore_n 2, 1), (2, .aload_n 0, 1), (3, .getfield 20, 3), (6, .invokevirtual 181, 3), (9, .astore_n 3, 1), (10, .aload_n 3, 1), (11, .invokeinterface 185 1, 5), (16, .ifCond .eq 39, 3), (19, .aload_n 3, 1), (20, .invokeinterface 191 1, 5), (25, .checkcast 125, 3), (28, .astore 4, 2), (30, .iload_n 2, 1), (31, .aload 4, 2), (33, .aload_n 0, 1), (34, .getfield 16, 3), (37, .iload_n 1, 1), (38, .invokevirtual 42, 3), (41, .checkcast 125, 3), (44, .invokestatic 126, 3), (47, .invokestatic 92, 3), (50, .iadd, 1), (51, .istore_n 2, 1), (52, .goto (-42), 3), (55, .iload_n 2, 1), (56, .ireturn, 1)]
theorem dX3_oftenNow_0_D : dtc cX3_oftenNow dX3_oftenNow_0_T = true := by decide +kernel
def MX3_oftenNow (g : RO) : MT := ((RX3, cX3_oftenNow, 5, 4, 1, 4, false, some .int), [(20, 7, 3), (16, 7, 2)], [], [], [], [], 0, [(181, 2, 1, 3, 2, (fun _ _ => 1), (fun _ _ => 4), yJx4a65c_iterator_32c93, spOf (MJx4a65c_iterator_32c93 g)), (185, 6, 1, 2, 1, (fun _ _ => 0), (fun _ _ => 0), yJx35411_hasNext_aae02, spOf (MJx35411_hasNext_aae02 g)), (191, 6, 1, 2, 2, (fun _ _ => 0), (fun _ _ => 0), yJx35411_next_0502b, spOf (MJx35411_next_0502b g)), (42, 2, 2, 3, 3, (fun _ _ => 0), (fun _ _ => 0), yJx4a65c_get_915e3, spOf (MJx4a65c_get_915e3 g)), (126, 0, 2, 0, 1, (fun _ _ => 0), (fun _ _ => 0), yX3_same, spOf (MX3_same g)), (92, 0, 1, 0, 1, (fun _ _ => 0), (fun _ _ => 0), yX3_one, spOf (MX3_one g))], [], [(125, 0)], 0, [], [], g)
section
variable {g : RO} {Q : Ot → Hw → Prop} {st : List Value} {w : Hw} {k n p q : Nat} {a b : Int32} {x y : Int64} {u v : Value} {l0 l1 l2 l3 l4 : Option Value}
theorem eX3_oftenNow_0 : WP (MX3_oftenNow g) Q (0, [l0, l1, l2, l3, l4], st, w, k, n) = WP (MX3_oftenNow g) Q (1, [l0, l1, l2, l3, l4], .int 0 :: st, w, k, n) := ic_0 rfl (dt_q dX3_oftenNow_0_D 0 rfl)
theorem eX3_oftenNow_1 : WP (MX3_oftenNow g) Q (1, [l0, l1, l2, l3, l4], .int a :: st, w, k, n) = WP (MX3_oftenNow g) Q (2, [l0, nl l1, some (.int a), l3, l4], st, w, k, n) := isn_e rfl (dt_q dX3_oftenNow_0_D 1 rfl) rfl rfl
theorem eX3_oftenNow_2 : WP (MX3_oftenNow g) Q (2, [some (.ref p), l1, l2, l3, l4], st, w, k, n) = WP (MX3_oftenNow g) Q (3, [some (.ref p), l1, l2, l3, l4], .ref p :: st, w, k, n) := alnR_e rfl (dt_q dX3_oftenNow_0_D 2 rfl) rfl
theorem eX3_oftenNow_2N : WP (MX3_oftenNow g) Q (2, [some .null, l1, l2, l3, l4], st, w, k, n) = WP (MX3_oftenNow g) Q (3, [some .null, l1, l2, l3, l4], .null :: st, w, k, n) := alnN_e rfl (dt_q dX3_oftenNow_0_D 2 rfl) rfl
theorem eX3_oftenNow_3 : WP (MX3_oftenNow g) Q (3, [l0, l1, l2, l3, l4], .ref p :: st, w, k, n) = go (rd g w p) 7 fun fs => ∃ v, fs[3]? = some v ∧ WP (MX3_oftenNow g) Q (6, [l0, l1, l2, l3, l4], v :: st, w, k, n) := get_e rfl (dt_q dX3_oftenNow_0_D 3 rfl) rfl
theorem eX3_oftenNow_6  : WP (MX3_oftenNow g) Q (6, [l0, l1, l2, l3, l4], .ref p :: st, w, k, n) = (go (rd g w p) 3 (fun _ => True) ∧ wt st ≤ 8 ∧ k + 1 ≤ 1 ∧ n + 4 ≤ 4 ∧ WP (MJx4a65c_iterator_32c93 g) (kx (fun v w' => WP (MX3_oftenNow g) Q (9, [l0, l1, l2, l3, l4], v.toList ++ st, w', k + 1, n + 4)) (fun E w' => Q (.inr E) w')) (0, [some (.ref p)], [], w, 0, 0)) := csV0 (M := (MX3_oftenNow g)) (mc := (fun _ _ => 1)) (ms := (fun _ _ => 4)) (As := []) (rest := st) (MJx4a65c_iterator_32c93 g) rfl rfl rfl (dt_q dX3_oftenNow_0_D 4 rfl) rfl rfl rfl rfl rfl rfl
theorem eX3_oftenNow_9 : WP (MX3_oftenNow g) Q (9, [l0, l1, l2, l3, l4], .ref p :: st, w, k, n) = WP (MX3_oftenNow g) Q (10, [l0, l1, nl l2, some (.ref p), l4], st, w, k, n) := asnR_e rfl (dt_q dX3_oftenNow_0_D 5 rfl) rfl rfl
theorem eX3_oftenNow_9N : WP (MX3_oftenNow g) Q (9, [l0, l1, l2, l3, l4], .null :: st, w, k, n) = WP (MX3_oftenNow g) Q (10, [l0, l1, nl l2, some (.null), l4], st, w, k, n) := asnN_e rfl (dt_q dX3_oftenNow_0_D 5 rfl) rfl rfl
theorem eX3_oftenNow_10 : WP (MX3_oftenNow g) Q (10, [l0, l1, l2, some (.ref p), l4], st, w, k, n) = WP (MX3_oftenNow g) Q (11, [l0, l1, l2, some (.ref p), l4], .ref p :: st, w, k, n) := alnR_e rfl (dt_q dX3_oftenNow_0_D 6 rfl) rfl
theorem eX3_oftenNow_11  : WP (MX3_oftenNow g) Q (11, [l0, l1, l2, l3, l4], .ref p :: st, w, k, n) = (go (rd g w p) 2 (fun _ => True) ∧ wt st ≤ 8 ∧ k + 0 ≤ 1 ∧ n + 0 ≤ 4 ∧ WP (MJx35411_hasNext_aae02 g) (kx (fun v w' => WP (MX3_oftenNow g) Q (16, [l0, l1, l2, l3, l4], v.toList ++ st, w', k + 0, n + 0)) (fun E w' => Q (.inr E) w')) (0, [some (.ref p)], [], w, 0, 0)) := csF (M := (MX3_oftenNow g)) (mc := (fun _ _ => 0)) (ms := (fun _ _ => 0)) (As := []) (rest := st) (MJx35411_hasNext_aae02 g) rfl rfl (dt_q dX3_oftenNow_0_D 7 rfl) rfl rfl (Nat.le_of_ble_eq_true rfl) (Nat.le_of_ble_eq_true rfl) rfl
theorem eX3_oftenNow_16 : WP (MX3_oftenNow g) Q (16, [l0, l1, l2, l3, l4], .int a :: st, w, k, n) = if a = 0 then WP (MX3_oftenNow g) Q (55, [l0, l1, l2, l3, l4], st, w, k, n) else WP (MX3_oftenNow g) Q (19, [l0, l1, l2, l3, l4], st, w, k, n) := ifc_e (a = 0) rfl (dt_q dX3_oftenNow_0_D 8 rfl) rfl (by decide)
theorem eX3_oftenNow_19 : WP (MX3_oftenNow g) Q (19, [l0, l1, l2, some (.ref p), l4], st, w, k, n) = WP (MX3_oftenNow g) Q (20, [l0, l1, l2, some (.ref p), l4], .ref p :: st, w, k, n) := alnR_e rfl (dt_q dX3_oftenNow_0_D 9 rfl) rfl
theorem eX3_oftenNow_19N : WP (MX3_oftenNow g) Q (19, [l0, l1, l2, some .null, l4], st, w, k, n) = WP (MX3_oftenNow g) Q (20, [l0, l1, l2, some .null, l4], .null :: st, w, k, n) := alnN_e rfl (dt_q dX3_oftenNow_0_D 9 rfl) rfl
theorem eX3_oftenNow_20  : WP (MX3_oftenNow g) Q (20, [l0, l1, l2, l3, l4], .ref p :: st, w, k, n) = (go (rd g w p) 2 (fun _ => True) ∧ wt st ≤ 8 ∧ k + 0 ≤ 1 ∧ n + 0 ≤ 4 ∧ WP (MJx35411_next_0502b g) (kx (fun v w' => WP (MX3_oftenNow g) Q (25, [l0, l1, l2, l3, l4], v.toList ++ st, w', k + 0, n + 0)) (fun E w' => Q (.inr E) w')) (0, [some (.ref p), none, none], [], w, 0, 0)) := csF (M := (MX3_oftenNow g)) (mc := (fun _ _ => 0)) (ms := (fun _ _ => 0)) (As := []) (rest := st) (MJx35411_next_0502b g) rfl rfl (dt_q dX3_oftenNow_0_D 10 rfl) rfl rfl (Nat.le_of_ble_eq_true rfl) (Nat.le_of_ble_eq_true rfl) rfl
theorem eX3_oftenNow_25N : WP (MX3_oftenNow g) Q (25, [l0, l1, l2, l3, l4], .null :: st, w, k, n) = WP (MX3_oftenNow g) Q (28, [l0, l1, l2, l3, l4], .null :: st, w, k, n) := castN_e rfl (dt_q dX3_oftenNow_0_D 11 rfl)
theorem eX3_oftenNow_25R : WP (MX3_oftenNow g) Q (25, [l0, l1, l2, l3, l4], .ref p :: st, w, k, n) = ((∃ x, w p = some (.inl (0, x))) ∧ WP (MX3_oftenNow g) Q (28, [l0, l1, l2, l3, l4], .ref p :: st, w, k, n)) := castR_e rfl (dt_q dX3_oftenNow_0_D 11 rfl) rfl
theorem eX3_oftenNow_28 : WP (MX3_oftenNow g) Q (28, [l0, l1, l2, l3, l4], .ref p :: st, w, k, n) = WP (MX3_oftenNow g) Q (30, [l0, l1, l2, nl l3, some (.ref p)], st, w, k, n) := asR_e rfl (dt_q dX3_oftenNow_0_D 12 rfl) rfl rfl
theorem eX3_oftenNow_28N : WP (MX3_oftenNow g) Q (28, [l0, l1, l2, l3, l4], .null :: st, w, k, n) = WP (MX3_oftenNow g) Q (30, [l0, l1, l2, nl l3, some (.null)], st, w, k, n) := asN_e rfl (dt_q dX3_oftenNow_0_D 12 rfl) rfl rfl
theorem eX3_oftenNow_30 : WP (MX3_oftenNow g) Q (30, [l0, l1, some (.int a), l3, l4], st, w, k, n) = WP (MX3_oftenNow g) Q (31, [l0, l1, some (.int a), l3, l4], .int a :: st, w, k, n) := iln_e rfl (dt_q dX3_oftenNow_0_D 13 rfl) rfl
theorem eX3_oftenNow_31 : WP (MX3_oftenNow g) Q (31, [l0, l1, l2, l3, some (.ref p)], st, w, k, n) = WP (MX3_oftenNow g) Q (33, [l0, l1, l2, l3, some (.ref p)], .ref p :: st, w, k, n) := alR_e rfl (dt_q dX3_oftenNow_0_D 14 rfl) rfl
theorem eX3_oftenNow_31N : WP (MX3_oftenNow g) Q (31, [l0, l1, l2, l3, some .null], st, w, k, n) = WP (MX3_oftenNow g) Q (33, [l0, l1, l2, l3, some .null], .null :: st, w, k, n) := alN_e rfl (dt_q dX3_oftenNow_0_D 14 rfl) rfl
theorem eX3_oftenNow_33 : WP (MX3_oftenNow g) Q (33, [some (.ref p), l1, l2, l3, l4], st, w, k, n) = WP (MX3_oftenNow g) Q (34, [some (.ref p), l1, l2, l3, l4], .ref p :: st, w, k, n) := alnR_e rfl (dt_q dX3_oftenNow_0_D 15 rfl) rfl
theorem eX3_oftenNow_33N : WP (MX3_oftenNow g) Q (33, [some .null, l1, l2, l3, l4], st, w, k, n) = WP (MX3_oftenNow g) Q (34, [some .null, l1, l2, l3, l4], .null :: st, w, k, n) := alnN_e rfl (dt_q dX3_oftenNow_0_D 15 rfl) rfl
theorem eX3_oftenNow_34 : WP (MX3_oftenNow g) Q (34, [l0, l1, l2, l3, l4], .ref p :: st, w, k, n) = go (rd g w p) 7 fun fs => ∃ v, fs[2]? = some v ∧ WP (MX3_oftenNow g) Q (37, [l0, l1, l2, l3, l4], v :: st, w, k, n) := get_e rfl (dt_q dX3_oftenNow_0_D 16 rfl) rfl
theorem eX3_oftenNow_37 : WP (MX3_oftenNow g) Q (37, [l0, some (.int a), l2, l3, l4], st, w, k, n) = WP (MX3_oftenNow g) Q (38, [l0, some (.int a), l2, l3, l4], .int a :: st, w, k, n) := iln_e rfl (dt_q dX3_oftenNow_0_D 17 rfl) rfl
theorem eX3_oftenNow_38 {z0 : Int32} : WP (MX3_oftenNow g) Q (38, [l0, l1, l2, l3, l4], .int z0 :: .ref p :: st, w, k, n) = (go (rd g w p) 3 (fun _ => True) ∧ wt st ≤ 8 ∧ k + 0 ≤ 1 ∧ n + 0 ≤ 4 ∧ WP (MJx4a65c_get_915e3 g) (kx (fun v w' => WP (MX3_oftenNow g) Q (41, [l0, l1, l2, l3, l4], v.toList ++ st, w', k + 0, n + 0)) (fun E w' => Q (.inr E) w')) (0, [some (.ref p), some (.int z0)], [], w, 0, 0)) := csV0 (M := (MX3_oftenNow g)) (mc := (fun _ _ => 0)) (ms := (fun _ _ => 0)) (As := [.int z0]) (rest := st) (MJx4a65c_get_915e3 g) rfl rfl rfl (dt_q dX3_oftenNow_0_D 18 rfl) rfl rfl rfl rfl rfl rfl
theorem eX3_oftenNow_41N : WP (MX3_oftenNow g) Q (41, [l0, l1, l2, l3, l4], .null :: st, w, k, n) = WP (MX3_oftenNow g) Q (44, [l0, l1, l2, l3, l4], .null :: st, w, k, n) := castN_e rfl (dt_q dX3_oftenNow_0_D 19 rfl)
theorem eX3_oftenNow_41R : WP (MX3_oftenNow g) Q (41, [l0, l1, l2, l3, l4], .ref p :: st, w, k, n) = ((∃ x, w p = some (.inl (0, x))) ∧ WP (MX3_oftenNow g) Q (44, [l0, l1, l2, l3, l4], .ref p :: st, w, k, n)) := castR_e rfl (dt_q dX3_oftenNow_0_D 19 rfl) rfl
theorem eX3_oftenNow_44RR {z0 : Nat} {z1 : Nat} : WP (MX3_oftenNow g) Q (44, [l0, l1, l2, l3, l4], .ref z1 :: .ref z0 :: st, w, k, n) = (wt st ≤ 8 ∧ k + 0 ≤ 1 ∧ n + 0 ≤ 4 ∧ WP (MX3_same g) (kx (fun v w' => WP (MX3_oftenNow g) Q (47, [l0, l1, l2, l3, l4], v.toList ++ st, w', k + 0, n + 0)) (fun E w' => Q (.inr E) w')) (0, [some (.ref z0), some (.ref z1), none, none], [], w, 0, 0)) := csS0 (M := (MX3_oftenNow g)) (mc := (fun _ _ => 0)) (ms := (fun _ _ => 0)) (As := [.ref z0, .ref z1]) (rest := st) (MX3_same g) rfl rfl rfl (dt_q dX3_oftenNow_0_D 20 rfl) rfl rfl rfl rfl rfl rfl rfl
theorem eX3_oftenNow_44NR {z1 : Nat} : WP (MX3_oftenNow g) Q (44, [l0, l1, l2, l3, l4], .ref z1 :: .null :: st, w, k, n) = (wt st ≤ 8 ∧ k + 0 ≤ 1 ∧ n + 0 ≤ 4 ∧ WP (MX3_same g) (kx (fun v w' => WP (MX3_oftenNow g) Q (47, [l0, l1, l2, l3, l4], v.toList ++ st, w', k + 0, n + 0)) (fun E w' => Q (.inr E) w')) (0, [some .null, some (.ref z1), none, none], [], w, 0, 0)) := csS0 (M := (MX3_oftenNow g)) (mc := (fun _ _ => 0)) (ms := (fun _ _ => 0)) (As := [.null, .ref z1]) (rest := st) (MX3_same g) rfl rfl rfl (dt_q dX3_oftenNow_0_D 20 rfl) rfl rfl rfl rfl rfl rfl rfl
theorem eX3_oftenNow_44RN {z0 : Nat} : WP (MX3_oftenNow g) Q (44, [l0, l1, l2, l3, l4], .null :: .ref z0 :: st, w, k, n) = (wt st ≤ 8 ∧ k + 0 ≤ 1 ∧ n + 0 ≤ 4 ∧ WP (MX3_same g) (kx (fun v w' => WP (MX3_oftenNow g) Q (47, [l0, l1, l2, l3, l4], v.toList ++ st, w', k + 0, n + 0)) (fun E w' => Q (.inr E) w')) (0, [some (.ref z0), some .null, none, none], [], w, 0, 0)) := csS0 (M := (MX3_oftenNow g)) (mc := (fun _ _ => 0)) (ms := (fun _ _ => 0)) (As := [.ref z0, .null]) (rest := st) (MX3_same g) rfl rfl rfl (dt_q dX3_oftenNow_0_D 20 rfl) rfl rfl rfl rfl rfl rfl rfl
theorem eX3_oftenNow_44NN  : WP (MX3_oftenNow g) Q (44, [l0, l1, l2, l3, l4], .null :: .null :: st, w, k, n) = (wt st ≤ 8 ∧ k + 0 ≤ 1 ∧ n + 0 ≤ 4 ∧ WP (MX3_same g) (kx (fun v w' => WP (MX3_oftenNow g) Q (47, [l0, l1, l2, l3, l4], v.toList ++ st, w', k + 0, n + 0)) (fun E w' => Q (.inr E) w')) (0, [some .null, some .null, none, none], [], w, 0, 0)) := csS0 (M := (MX3_oftenNow g)) (mc := (fun _ _ => 0)) (ms := (fun _ _ => 0)) (As := [.null, .null]) (rest := st) (MX3_same g) rfl rfl rfl (dt_q dX3_oftenNow_0_D 20 rfl) rfl rfl rfl rfl rfl rfl rfl
theorem eX3_oftenNow_47 {z0 : Int32} : WP (MX3_oftenNow g) Q (47, [l0, l1, l2, l3, l4], .int z0 :: st, w, k, n) = (wt st ≤ 8 ∧ k + 0 ≤ 1 ∧ n + 0 ≤ 4 ∧ WP (MX3_one g) (kx (fun v w' => WP (MX3_oftenNow g) Q (50, [l0, l1, l2, l3, l4], v.toList ++ st, w', k + 0, n + 0)) (fun E w' => Q (.inr E) w')) (0, [some (.int z0)], [], w, 0, 0)) := csS0 (M := (MX3_oftenNow g)) (mc := (fun _ _ => 0)) (ms := (fun _ _ => 0)) (As := [.int z0]) (rest := st) (MX3_one g) rfl rfl rfl (dt_q dX3_oftenNow_0_D 21 rfl) rfl rfl rfl rfl rfl rfl rfl
theorem eX3_oftenNow_50 : WP (MX3_oftenNow g) Q (50, [l0, l1, l2, l3, l4], .int b :: .int a :: st, w, k, n) = WP (MX3_oftenNow g) Q (51, [l0, l1, l2, l3, l4], .int (a + b) :: st, w, k, n) := iadd_e rfl (dt_q dX3_oftenNow_0_D 22 rfl)
theorem eX3_oftenNow_51 : WP (MX3_oftenNow g) Q (51, [l0, l1, l2, l3, l4], .int a :: st, w, k, n) = WP (MX3_oftenNow g) Q (52, [l0, nl l1, some (.int a), l3, l4], st, w, k, n) := isn_e rfl (dt_q dX3_oftenNow_0_D 23 rfl) rfl rfl
theorem eX3_oftenNow_52 : WP (MX3_oftenNow g) Q (52, [l0, l1, l2, l3, l4], st, w, k, n) = WP (MX3_oftenNow g) Q (10, [l0, l1, l2, l3, l4], st, w, k, n) := goto_e rfl (dt_q dX3_oftenNow_0_D 24 rfl) (by decide)
theorem eX3_oftenNow_55 : WP (MX3_oftenNow g) Q (55, [l0, l1, some (.int a), l3, l4], st, w, k, n) = WP (MX3_oftenNow g) Q (56, [l0, l1, some (.int a), l3, l4], .int a :: st, w, k, n) := iln_e rfl (dt_q dX3_oftenNow_0_D 25 rfl) rfl
set_option maxRecDepth 20000 in
theorem eX3_oftenNow_56 : WP (MX3_oftenNow g) Q (56, [l0, l1, l2, l3, l4], [.int a], w, k, n) = (k ≤ 1 ∧ n ≤ 4 ∧ Q (.inl (some (.int a))) w) := iretI_e rfl (dt_q dX3_oftenNow_0_D 26 rfl) rfl
end
theorem wk_1543 : (.code yJx4a65c_iterator_32c93 cJx4a65c_iterator_32c93 1 (some (.object "java/util/Iterator")) : Jvm.Cond) ∈ WS := WS_t7 45 rfl rfl
theorem wk_1540 : (.methodLink RX3 181 yJx4a65c_iterator_32c93 : Jvm.Cond) ∈ WS := WS_t7 42 rfl rfl
theorem wk_1541 : (.instanceMethod yJx4a65c_iterator_32c93 : Jvm.Cond) ∈ WS := WS_t7 43 rfl rfl
theorem wk_1542 : (.selects RJx4a65c yJx4a65c_iterator_32c93 yJx4a65c_iterator_32c93 : Jvm.Cond) ∈ WS := WS_t7 44 rfl rfl
theorem wk_1572 : (.code yJx35411_hasNext_aae02 cJx35411_hasNext_aae02 1 (some .boolean) : Jvm.Cond) ∈ WS := WS_t7 74 rfl rfl
theorem wk_1564 : (.methodLink RX3 185 (⟨"java/util/Iterator", "hasNext", "()Z"⟩ : MethodName) : Jvm.Cond) ∈ WS := WS_t7 66 rfl rfl
theorem wk_1570 : (.instanceMethod yJx35411_hasNext_aae02 : Jvm.Cond) ∈ WS := WS_t7 72 rfl rfl
theorem wk_1568 : (.selects RJx35411 (⟨"java/util/Iterator", "hasNext", "()Z"⟩ : MethodName) yJx35411_hasNext_aae02 : Jvm.Cond) ∈ WS := WS_t7 70 rfl rfl
theorem wk_1581 : (.code yJx35411_next_0502b cJx35411_next_0502b 3 (some (.object "java/lang/Object")) : Jvm.Cond) ∈ WS := WS_t7 83 rfl rfl
theorem wk_1574 : (.methodLink RX3 191 (⟨"java/util/Iterator", "next", "()Ljava/lang/Object;"⟩ : MethodName) : Jvm.Cond) ∈ WS := WS_t7 76 rfl rfl
theorem wk_1579 : (.instanceMethod yJx35411_next_0502b : Jvm.Cond) ∈ WS := WS_t7 81 rfl rfl
theorem wk_1577 : (.selects RJx35411 (⟨"java/util/Iterator", "next", "()Ljava/lang/Object;"⟩ : MethodName) yJx35411_next_0502b : Jvm.Cond) ∈ WS := WS_t7 79 rfl rfl
theorem kc_70 {l : Launch} (hl : l.stackTraces = false) {G : GT} {own : String} {i : Nat} (hw : Jvm.Cond.methodLink own i yJx4a65c_iterator_32c93 ∈ WS) : vCal l G own i (2, 1, 3, 2, (fun _ _ => 1), (fun _ _ => 4), yJx4a65c_iterator_32c93, spOf (MJx4a65c_iterator_32c93 (gg G))) := ⟨cJx4a65c_iterator_32c93, 1, some (.object "java/util/Iterator"), fun y hy => by subst hy; exact ⟨by decide, ⟨_, wk_1543, okJx4a65c_iterator_32c93 hl, Or.inl ⟨Nat.ne_of_beq_eq_false rfl, rfl⟩⟩, wk_63, nc6, ⟨(by decide +kernel : (parseMethodDescriptor yJx4a65c_iterator_32c93.desc).map (fun d => d.parameters.length + 1) = some 1), hw, wk_1541, wk_1542, (RJx4a65c, TJx4a65c, 3), rfl, rfl⟩⟩⟩
theorem vMX3_oftenNow {l : Launch} (hl : l.stackTraces = false) (G : GT) : vM l G (MX3_oftenNow (gg G)) := vM_k RX3 cX3_oftenNow rfl rfl (all_c (vF_RX3_20) (all_c (vF_RX3_16) (all_n))) all_n all_n all_n all_n (fun h => absurd rfl h) (all_c (kc_70 hl wk_1540) (all_c (⟨cJx35411_hasNext_aae02, 1, some .boolean, fun y hy => by subst hy; exact ⟨by decide, ⟨_, wk_1572, okJx35411_hasNext_aae02 hl, Or.inl ⟨Nat.ne_of_beq_eq_false rfl, rfl⟩⟩, wk_87, nc8, ⟨(⟨"java/util/Iterator", "hasNext", "()Z"⟩ : MethodName), (by decide +kernel : (parseMethodDescriptor (⟨"java/util/Iterator", "hasNext", "()Z"⟩ : MethodName).desc).map (fun d => d.parameters.length + 1) = some 1), wk_1564, wk_1570, (RJx35411, TJx35411, 4), rfl, wk_1568, (by decide : (RJx35411, (⟨"java/util/Iterator", "hasNext", "()Z"⟩ : MethodName), yJx35411_hasNext_aae02) ∈ IFL)⟩⟩⟩) (all_c (⟨cJx35411_next_0502b, 3, some (.object "java/lang/Object"), fun y hy => by subst hy; exact ⟨by decide, ⟨_, wk_1581, okJx35411_next_0502b hl, Or.inl ⟨Nat.ne_of_beq_eq_false rfl, rfl⟩⟩, wk_87, nc8, ⟨(⟨"java/util/Iterator", "next", "()Ljava/lang/Object;"⟩ : MethodName), (by decide +kernel : (parseMethodDescriptor (⟨"java/util/Iterator", "next", "()Ljava/lang/Object;"⟩ : MethodName).desc).map (fun d => d.parameters.length + 1) = some 1), wk_1574, wk_1579, (RJx35411, TJx35411, 4), rfl, wk_1577, (by decide : (RJx35411, (⟨"java/util/Iterator", "next", "()Ljava/lang/Object;"⟩ : MethodName), yJx35411_next_0502b) ∈ IFL)⟩⟩⟩) (all_c (kc_37 hl wk_1376) (all_c (kc_55 hl wk_1385) (all_c (kc_47 hl wk_1311) (all_n))))))) all_n (all_c (⟨.long, rfl, (fun C h => by cases h), wk_1380⟩) (all_n)) (fun h => absurd rfl h) rfl all_n
theorem okX3_oftenNow {l : Launch} (hl : l.stackTraces = false) {G : GT} : ∀ (args : List Value) (w : Hw) (S : Ot → Hw → Prop), spOf (MX3_oftenNow (gg G)) args w S → CX l G yX3_oftenNow (.code yX3_oftenNow cX3_oftenNow 5 (some .int)) 4 1 4 args w S := CX_sp (M := MX3_oftenNow (gg G)) (y := yX3_oftenNow) hl (by decide) rfl (vMX3_oftenNow hl G) (fun h => by cases h) rfl
abbrev dX3_howOften_0_T : List (Nat × Instr × Nat) := [(0, .aload_n 0, 1), (1, .iload_n 1, 1), (2, .invokevirtual 134, 3), (5, .ifCond .eq 7, 3), (8, .iconst 0, 1), (9, .goto 8, 3), (12, .aload_n 0, 1), (13, .iload_n 1, 1), (14, .invokevirtual 195, 3), (17, .ireturn, 1)]
theorem dX3_howOften_0_D : dtc cX3_howOften dX3_howOften_0_T = true := by decide +kernel
def MX3_howOften (g : RO) : MT := ((RX3, cX3_howOften, 2, 6, 1, 4, false, some .int), [], [], [], [], [], 0, [(134, 2, 2, 7, 5, (fun _ _ => 0), (fun _ _ => 0), yX3_isNone, spOf (MX3_isNone g)), (195, 2, 2, 7, 4, (fun _ _ => 1), (fun _ _ => 4), yX3_oftenNow, spOf (MX3_oftenNow g))], [], [], 0, [], [], g)
section
variable {g : RO} {Q : Ot → Hw → Prop} {st : List Value} {w : Hw} {k n p q : Nat} {a b : Int32} {x y : Int64} {u v : Value} {l0 l1 : Option Value}
theorem eX3_howOften_0 : WP (MX3_howOften g) Q (0, [some (.ref p), l1], st, w, k, n) = WP (MX3_howOften g) Q (1, [some (.ref p), l1], .ref p :: st, w, k, n) := alnR_e rfl (dt_q dX3_howOften_0_D 0 rfl) rfl
theorem eX3_howOften_0N : WP (MX3_howOften g) Q (0, [some .null, l1], st, w, k, n) = WP (MX3_howOften g) Q (1, [some .null, l1], .null :: st, w, k, n) := alnN_e rfl (dt_q dX3_howOften_0_D 0 rfl) rfl
theorem eX3_howOften_1 : WP (MX3_howOften g) Q (1, [l0, some (.int a)], st, w, k, n) = WP (MX3_howOften g) Q (2, [l0, some (.int a)], .int a :: st, w, k, n) := iln_e rfl (dt_q dX3_howOften_0_D 1 rfl) rfl
theorem eX3_howOften_2 {z0 : Int32} : WP (MX3_howOften g) Q (2, [l0, l1], .int z0 :: .ref p :: st, w, k, n) = (go (rd g w p) 7 (fun _ => True) ∧ wt st ≤ 8 ∧ k + 0 ≤ 1 ∧ n + 0 ≤ 4 ∧ WP (MX3_isNone g) (kx (fun v w' => WP (MX3_howOften g) Q (5, [l0, l1], v.toList ++ st, w', k + 0, n + 0)) (fun E w' => Q (.inr E) w')) (0, [some (.ref p), some (.int z0)], [], w, 0, 0)) := csV0 (M := (MX3_howOften g)) (mc := (fun _ _ => 0)) (ms := (fun _ _ => 0)) (As := [.int z0]) (rest := st) (MX3_isNone g) rfl rfl rfl (dt_q dX3_howOften_0_D 2 rfl) rfl rfl rfl rfl rfl rfl
theorem eX3_howOften_5 : WP (MX3_howOften g) Q (5, [l0, l1], .int a :: st, w, k, n) = if a = 0 then WP (MX3_howOften g) Q (12, [l0, l1], st, w, k, n) else WP (MX3_howOften g) Q (8, [l0, l1], st, w, k, n) := ifc_e (a = 0) rfl (dt_q dX3_howOften_0_D 3 rfl) rfl (by decide)
theorem eX3_howOften_8 : WP (MX3_howOften g) Q (8, [l0, l1], st, w, k, n) = WP (MX3_howOften g) Q (9, [l0, l1], .int 0 :: st, w, k, n) := ic_0 rfl (dt_q dX3_howOften_0_D 4 rfl)
theorem eX3_howOften_9 : WP (MX3_howOften g) Q (9, [l0, l1], st, w, k, n) = WP (MX3_howOften g) Q (17, [l0, l1], st, w, k, n) := goto_e rfl (dt_q dX3_howOften_0_D 5 rfl) (by decide)
theorem eX3_howOften_12 : WP (MX3_howOften g) Q (12, [some (.ref p), l1], st, w, k, n) = WP (MX3_howOften g) Q (13, [some (.ref p), l1], .ref p :: st, w, k, n) := alnR_e rfl (dt_q dX3_howOften_0_D 6 rfl) rfl
theorem eX3_howOften_12N : WP (MX3_howOften g) Q (12, [some .null, l1], st, w, k, n) = WP (MX3_howOften g) Q (13, [some .null, l1], .null :: st, w, k, n) := alnN_e rfl (dt_q dX3_howOften_0_D 6 rfl) rfl
theorem eX3_howOften_13 : WP (MX3_howOften g) Q (13, [l0, some (.int a)], st, w, k, n) = WP (MX3_howOften g) Q (14, [l0, some (.int a)], .int a :: st, w, k, n) := iln_e rfl (dt_q dX3_howOften_0_D 7 rfl) rfl
theorem eX3_howOften_14 {z0 : Int32} : WP (MX3_howOften g) Q (14, [l0, l1], .int z0 :: .ref p :: st, w, k, n) = (go (rd g w p) 7 (fun _ => True) ∧ wt st ≤ 8 ∧ k + 1 ≤ 1 ∧ n + 4 ≤ 4 ∧ WP (MX3_oftenNow g) (kx (fun v w' => WP (MX3_howOften g) Q (17, [l0, l1], v.toList ++ st, w', k + 1, n + 4)) (fun E w' => Q (.inr E) w')) (0, [some (.ref p), some (.int z0), none, none, none], [], w, 0, 0)) := csV0 (M := (MX3_howOften g)) (mc := (fun _ _ => 1)) (ms := (fun _ _ => 4)) (As := [.int z0]) (rest := st) (MX3_oftenNow g) rfl rfl rfl (dt_q dX3_howOften_0_D 8 rfl) rfl rfl rfl rfl rfl rfl
theorem eX3_howOften_17 : WP (MX3_howOften g) Q (17, [l0, l1], [.int a], w, k, n) = (k ≤ 1 ∧ n ≤ 4 ∧ Q (.inl (some (.int a))) w) := iretI_e rfl (dt_q dX3_howOften_0_D 9 rfl) rfl
end
theorem wk_1539 : (.code yX3_oftenNow cX3_oftenNow 5 (some .int) : Jvm.Cond) ∈ WS := WS_t7 41 rfl rfl
theorem wk_1536 : (.methodLink RX3 195 yX3_oftenNow : Jvm.Cond) ∈ WS := WS_t7 38 rfl rfl
theorem wk_1538 : (.instanceMethod yX3_oftenNow : Jvm.Cond) ∈ WS := WS_t7 40 rfl rfl
theorem wk_51 : (.selects RX3 yX3_oftenNow yX3_oftenNow : Jvm.Cond) ∈ WS := WS_at 51 (by decide +kernel) rfl
theorem kc_71 {l : Launch} (hl : l.stackTraces = false) {G : GT} {own : String} {i : Nat} (hw : Jvm.Cond.methodLink own i yX3_oftenNow ∈ WS) : vCal l G own i (2, 2, 7, 4, (fun _ _ => 1), (fun _ _ => 4), yX3_oftenNow, spOf (MX3_oftenNow (gg G))) := ⟨cX3_oftenNow, 5, some .int, fun y hy => by subst hy; exact ⟨by decide, ⟨_, wk_1539, okX3_oftenNow hl, Or.inl ⟨Nat.ne_of_beq_eq_false rfl, rfl⟩⟩, wk_60, nc13, ⟨(by decide +kernel : (parseMethodDescriptor yX3_oftenNow.desc).map (fun d => d.parameters.length + 1) = some 2), hw, wk_1538, wk_51, (RX3, TX3, 7), rfl, rfl⟩⟩⟩
theorem vMX3_howOften {l : Launch} (hl : l.stackTraces = false) (G : GT) : vM l G (MX3_howOften (gg G)) := vM_k RX3 cX3_howOften rfl rfl all_n all_n all_n all_n all_n (fun h => absurd rfl h) (all_c (kc_57 hl wk_1407) (all_c (kc_71 hl wk_1536) (all_n))) all_n all_n (fun h => absurd rfl h) rfl all_n
theorem okX3_howOften {l : Launch} (hl : l.stackTraces = false) {G : GT} : ∀ (args : List Value) (w : Hw) (S : Ot → Hw → Prop), spOf (MX3_howOften (gg G)) args w S → CX l G yX3_howOften (.code yX3_howOften cX3_howOften 2 (some .int)) 6 1 4 args w S := CX_sp (M := MX3_howOften (gg G)) (y := yX3_howOften) hl (by decide) rfl (vMX3_howOften hl G) (fun h => by cases h) rfl
abbrev dX3_lift_0_T : List (Nat × Instr × Nat) := [(0, .aload_n 0, 1), (1, .iload_n 1, 1), (2, .invokevirtual 134, 3), (5, .ifCond .eq 5, 3), (8, .iconst 0, 1), (9, .ireturn, 1), (10, .aload_n 0, 1), (11, .iload_n 1, 1), (12, .iconst 0, 1), (13, .invokevirtual 177, 3), (16, .istore_n 2, 1), (17, .iload_n 2, 1), (18, .iconst (-1), 1), (19, .if_icmp .eq 12, 3), (22, .aload_n 0, 1), (23, .getfield 20, 3), (26, .iload_n 2, 1), (27, .invokevirtual 198, 3), (30, .pop, 1), (31, .iload_n 2, 1), (32, .iconst (-1), 1), (33, .if_icmp .eq 7, 3), (36, .iconst 1, 1), (37, .goto 4, 3), (40, .iconst 0, 1), (41, .invokestatic 92, 3), (44, .ireturn, 1)]
theorem dX3_lift_0_D : dtc cX3_lift dX3_lift_0_T = true := by decide +kernel
def MX3_lift (g : RO) : MT := ((RX3, cX3_lift, 3, 6, 0, 0, false, some .int), [(20, 7, 3)], [], [], [], [], 0, [(134, 2, 2, 7, 5, (fun _ _ => 0), (fun _ _ => 0), yX3_isNone, spOf (MX3_isNone g)), (177, 2, 3, 7, 4, (fun _ _ => 0), (fun _ _ => 0), yX3_seekNow, spOf (MX3_seekNow g)), (198, 2, 2, 3, 3, (fun _ _ => 0), (fun _ _ => 0), yJx4a65c_remove_915e3, spOf (MJx4a65c_remove_915e3 g)), (92, 0, 1, 0, 1, (fun _ _ => 0), (fun _ _ => 0), yX3_one, spOf (MX3_one g))], [], [], 0, [], [], g)
section
variable {g : RO} {Q : Ot → Hw → Prop} {st : List Value} {w : Hw} {k n p q : Nat} {a b : Int32} {x y : Int64} {u v : Value} {l0 l1 l2 : Option Value}
theorem eX3_lift_0 : WP (MX3_lift g) Q (0, [some (.ref p), l1, l2], st, w, k, n) = WP (MX3_lift g) Q (1, [some (.ref p), l1, l2], .ref p :: st, w, k, n) := alnR_e rfl (dt_q dX3_lift_0_D 0 rfl) rfl
theorem eX3_lift_0N : WP (MX3_lift g) Q (0, [some .null, l1, l2], st, w, k, n) = WP (MX3_lift g) Q (1, [some .null, l1, l2], .null :: st, w, k, n) := alnN_e rfl (dt_q dX3_lift_0_D 0 rfl) rfl
theorem eX3_lift_1 : WP (MX3_lift g) Q (1, [l0, some (.int a), l2], st, w, k, n) = WP (MX3_lift g) Q (2, [l0, some (.int a), l2], .int a :: st, w, k, n) := iln_e rfl (dt_q dX3_lift_0_D 1 rfl) rfl
theorem eX3_lift_2 {z0 : Int32} : WP (MX3_lift g) Q (2, [l0, l1, l2], .int z0 :: .ref p :: st, w, k, n) = (go (rd g w p) 7 (fun _ => True) ∧ wt st ≤ 8 ∧ k + 0 ≤ 0 ∧ n + 0 ≤ 0 ∧ WP (MX3_isNone g) (kx (fun v w' => WP (MX3_lift g) Q (5, [l0, l1, l2], v.toList ++ st, w', k + 0, n + 0)) (fun E w' => Q (.inr E) w')) (0, [some (.ref p), some (.int z0)], [], w, 0, 0)) := csV0 (M := (MX3_lift g)) (mc := (fun _ _ => 0)) (ms := (fun _ _ => 0)) (As := [.int z0]) (rest := st) (MX3_isNone g) rfl rfl rfl (dt_q dX3_lift_0_D 2 rfl) rfl rfl rfl rfl rfl rfl
theorem eX3_lift_5 : WP (MX3_lift g) Q (5, [l0, l1, l2], .int a :: st, w, k, n) = if a = 0 then WP (MX3_lift g) Q (10, [l0, l1, l2], st, w, k, n) else WP (MX3_lift g) Q (8, [l0, l1, l2], st, w, k, n) := ifc_e (a = 0) rfl (dt_q dX3_lift_0_D 3 rfl) rfl (by decide)
theorem eX3_lift_8 : WP (MX3_lift g) Q (8, [l0, l1, l2], st, w, k, n) = WP (MX3_lift g) Q (9, [l0, l1, l2], .int 0 :: st, w, k, n) := ic_0 rfl (dt_q dX3_lift_0_D 4 rfl)
theorem eX3_lift_9 : WP (MX3_lift g) Q (9, [l0, l1, l2], [.int a], w, k, n) = (k ≤ 0 ∧ n ≤ 0 ∧ Q (.inl (some (.int a))) w) := iretI_e rfl (dt_q dX3_lift_0_D 5 rfl) rfl
theorem eX3_lift_10 : WP (MX3_lift g) Q (10, [some (.ref p), l1, l2], st, w, k, n) = WP (MX3_lift g) Q (11, [some (.ref p), l1, l2], .ref p :: st, w, k, n) := alnR_e rfl (dt_q dX3_lift_0_D 6 rfl) rfl
theorem eX3_lift_10N : WP (MX3_lift g) Q (10, [some .null, l1, l2], st, w, k, n) = WP (MX3_lift g) Q (11, [some .null, l1, l2], .null :: st, w, k, n) := alnN_e rfl (dt_q dX3_lift_0_D 6 rfl) rfl
theorem eX3_lift_11 : WP (MX3_lift g) Q (11, [l0, some (.int a), l2], st, w, k, n) = WP (MX3_lift g) Q (12, [l0, some (.int a), l2], .int a :: st, w, k, n) := iln_e rfl (dt_q dX3_lift_0_D 7 rfl) rfl
theorem eX3_lift_12 : WP (MX3_lift g) Q (12, [l0, l1, l2], st, w, k, n) = WP (MX3_lift g) Q (13, [l0, l1, l2], .int 0 :: st, w, k, n) := ic_0 rfl (dt_q dX3_lift_0_D 8 rfl)
theorem eX3_lift_13 {z0 : Int32} {z1 : Int32} : WP (MX3_lift g) Q (13, [l0, l1, l2], .int z1 :: .int z0 :: .ref p :: st, w, k, n) = (go (rd g w p) 7 (fun _ => True) ∧ wt st ≤ 8 ∧ k + 0 ≤ 0 ∧ n + 0 ≤ 0 ∧ WP (MX3_seekNow g) (kx (fun v w' => WP (MX3_lift g) Q (16, [l0, l1, l2], v.toList ++ st, w', k + 0, n + 0)) (fun E w' => Q (.inr E) w')) (0, [some (.ref p), some (.int z0), some (.int z1), none, none], [], w, 0, 0)) := csV0 (M := (MX3_lift g)) (mc := (fun _ _ => 0)) (ms := (fun _ _ => 0)) (As := [.int z0, .int z1]) (rest := st) (MX3_seekNow g) rfl rfl rfl (dt_q dX3_lift_0_D 9 rfl) rfl rfl rfl rfl rfl rfl
theorem eX3_lift_16 : WP (MX3_lift g) Q (16, [l0, l1, l2], .int a :: st, w, k, n) = WP (MX3_lift g) Q (17, [l0, nl l1, some (.int a)], st, w, k, n) := isn_e rfl (dt_q dX3_lift_0_D 10 rfl) rfl rfl
theorem eX3_lift_17 : WP (MX3_lift g) Q (17, [l0, l1, some (.int a)], st, w, k, n) = WP (MX3_lift g) Q (18, [l0, l1, some (.int a)], .int a :: st, w, k, n) := iln_e rfl (dt_q dX3_lift_0_D 11 rfl) rfl
theorem eX3_lift_18 : WP (MX3_lift g) Q (18, [l0, l1, l2], st, w, k, n) = WP (MX3_lift g) Q (19, [l0, l1, l2], .int (-1) :: st, w, k, n) := ic_m rfl (dt_q dX3_lift_0_D 12 rfl)
theorem eX3_lift_19 : WP (MX3_lift g) Q (19, [l0, l1, l2], .int b :: .int a :: st, w, k, n) = if a = b then WP (MX3_lift g) Q (31, [l0, l1, l2], st, w, k, n) else WP (MX3_lift g) Q (22, [l0, l1, l2], st, w, k, n) := icm_e (a = b) rfl (dt_q dX3_lift_0_D 13 rfl) rfl (by decide)
theorem eX3_lift_22 : WP (MX3_lift g) Q (22, [some (.ref p), l1, l2], st, w, k, n) = WP (MX3_lift g) Q (23, [some (.ref p), l1, l2], .ref p :: st, w, k, n) := alnR_e rfl (dt_q dX3_lift_0_D 14 rfl) rfl
theorem eX3_lift_22N : WP (MX3_lift g) Q (22, [some .null, l1, l2], st, w, k, n) = WP (MX3_lift g) Q (23, [some .null, l1, l2], .null :: st, w, k, n) := alnN_e rfl (dt_q dX3_lift_0_D 14 rfl) rfl
theorem eX3_lift_23 : WP (MX3_lift g) Q (23, [l0, l1, l2], .ref p :: st, w, k, n) = go (rd g w p) 7 fun fs => ∃ v, fs[3]? = some v ∧ WP (MX3_lift g) Q (26, [l0, l1, l2], v :: st, w, k, n) := get_e rfl (dt_q dX3_lift_0_D 15 rfl) rfl
theorem eX3_lift_26 : WP (MX3_lift g) Q (26, [l0, l1, some (.int a)], st, w, k, n) = WP (MX3_lift g) Q (27, [l0, l1, some (.int a)], .int a :: st, w, k, n) := iln_e rfl (dt_q dX3_lift_0_D 16 rfl) rfl
theorem eX3_lift_27 {z0 : Int32} : WP (MX3_lift g) Q (27, [l0, l1, l2], .int z0 :: .ref p :: st, w, k, n) = (go (rd g w p) 3 (fun _ => True) ∧ wt st ≤ 8 ∧ k + 0 ≤ 0 ∧ n + 0 ≤ 0 ∧ WP (MJx4a65c_remove_915e3 g) (kx (fun v w' => WP (MX3_lift g) Q (30, [l0, l1, l2], v.toList ++ st, w', k + 0, n + 0)) (fun E w' => Q (.inr E) w')) (0, [some (.ref p), some (.int z0), none, none], [], w, 0, 0)) := csV0 (M := (MX3_lift g)) (mc := (fun _ _ => 0)) (ms := (fun _ _ => 0)) (As := [.int z0]) (rest := st) (MJx4a65c_remove_915e3 g) rfl rfl rfl (dt_q dX3_lift_0_D 17 rfl) rfl rfl rfl rfl rfl rfl
theorem eX3_lift_30 : WP (MX3_lift g) Q (30, [l0, l1, l2], .int a :: st, w, k, n) = WP (MX3_lift g) Q (31, [l0, l1, l2], st, w, k, n) := popI_e rfl (dt_q dX3_lift_0_D 18 rfl)
theorem eX3_lift_30R : WP (MX3_lift g) Q (30, [l0, l1, l2], .ref p :: st, w, k, n) = WP (MX3_lift g) Q (31, [l0, l1, l2], st, w, k, n) := popR_e rfl (dt_q dX3_lift_0_D 18 rfl)
theorem eX3_lift_30N : WP (MX3_lift g) Q (30, [l0, l1, l2], .null :: st, w, k, n) = WP (MX3_lift g) Q (31, [l0, l1, l2], st, w, k, n) := popN_e rfl (dt_q dX3_lift_0_D 18 rfl)
theorem eX3_lift_31 : WP (MX3_lift g) Q (31, [l0, l1, some (.int a)], st, w, k, n) = WP (MX3_lift g) Q (32, [l0, l1, some (.int a)], .int a :: st, w, k, n) := iln_e rfl (dt_q dX3_lift_0_D 19 rfl) rfl
theorem eX3_lift_32 : WP (MX3_lift g) Q (32, [l0, l1, l2], st, w, k, n) = WP (MX3_lift g) Q (33, [l0, l1, l2], .int (-1) :: st, w, k, n) := ic_m rfl (dt_q dX3_lift_0_D 20 rfl)
theorem eX3_lift_33 : WP (MX3_lift g) Q (33, [l0, l1, l2], .int b :: .int a :: st, w, k, n) = if a = b then WP (MX3_lift g) Q (40, [l0, l1, l2], st, w, k, n) else WP (MX3_lift g) Q (36, [l0, l1, l2], st, w, k, n) := icm_e (a = b) rfl (dt_q dX3_lift_0_D 21 rfl) rfl (by decide)
theorem eX3_lift_36 : WP (MX3_lift g) Q (36, [l0, l1, l2], st, w, k, n) = WP (MX3_lift g) Q (37, [l0, l1, l2], .int 1 :: st, w, k, n) := ic_1 rfl (dt_q dX3_lift_0_D 22 rfl)
theorem eX3_lift_37 : WP (MX3_lift g) Q (37, [l0, l1, l2], st, w, k, n) = WP (MX3_lift g) Q (41, [l0, l1, l2], st, w, k, n) := goto_e rfl (dt_q dX3_lift_0_D 23 rfl) (by decide)
theorem eX3_lift_40 : WP (MX3_lift g) Q (40, [l0, l1, l2], st, w, k, n) = WP (MX3_lift g) Q (41, [l0, l1, l2], .int 0 :: st, w, k, n) := ic_0 rfl (dt_q dX3_lift_0_D 24 rfl)
theorem eX3_lift_41 {z0 : Int32} : WP (MX3_lift g) Q (41, [l0, l1, l2], .int z0 :: st, w, k, n) = (wt st ≤ 8 ∧ k + 0 ≤ 0 ∧ n + 0 ≤ 0 ∧ WP (MX3_one g) (kx (fun v w' => WP (MX3_lift g) Q (44, [l0, l1, l2], v.toList ++ st, w', k + 0, n + 0)) (fun E w' => Q (.inr E) w')) (0, [some (.int z0)], [], w, 0, 0)) := csS0 (M := (MX3_lift g)) (mc := (fun _ _ => 0)) (ms := (fun _ _ => 0)) (As := [.int z0]) (rest := st) (MX3_one g) rfl rfl rfl (dt_q dX3_lift_0_D 25 rfl) rfl rfl rfl rfl rfl rfl rfl
set_option maxRecDepth 20000 in
theorem eX3_lift_44 : WP (MX3_lift g) Q (44, [l0, l1, l2], [.int a], w, k, n) = (k ≤ 0 ∧ n ≤ 0 ∧ Q (.inl (some (.int a))) w) := iretI_e rfl (dt_q dX3_lift_0_D 26 rfl) rfl
end
theorem wk_1593 : (.code yJx4a65c_remove_915e3 cJx4a65c_remove_915e3 4 (some (.object "java/lang/Object")) : Jvm.Cond) ∈ WS := WS_t7 95 rfl rfl
theorem wk_1590 : (.methodLink RX3 198 yJx4a65c_remove_915e3 : Jvm.Cond) ∈ WS := WS_t7 92 rfl rfl
theorem wk_1591 : (.instanceMethod yJx4a65c_remove_915e3 : Jvm.Cond) ∈ WS := WS_t7 93 rfl rfl
theorem wk_1592 : (.selects RJx4a65c yJx4a65c_remove_915e3 yJx4a65c_remove_915e3 : Jvm.Cond) ∈ WS := WS_t7 94 rfl rfl
theorem kc_72 {l : Launch} (hl : l.stackTraces = false) {G : GT} {own : String} {i : Nat} (hw : Jvm.Cond.methodLink own i yJx4a65c_remove_915e3 ∈ WS) : vCal l G own i (2, 2, 3, 3, (fun _ _ => 0), (fun _ _ => 0), yJx4a65c_remove_915e3, spOf (MJx4a65c_remove_915e3 (gg G))) := ⟨cJx4a65c_remove_915e3, 4, some (.object "java/lang/Object"), fun y hy => by subst hy; exact ⟨by decide, ⟨_, wk_1593, okJx4a65c_remove_915e3 hl, Or.inl ⟨Nat.ne_of_beq_eq_false rfl, rfl⟩⟩, wk_63, nc6, ⟨(by decide +kernel : (parseMethodDescriptor yJx4a65c_remove_915e3.desc).map (fun d => d.parameters.length + 1) = some 2), hw, wk_1591, wk_1592, (RJx4a65c, TJx4a65c, 3), rfl, rfl⟩⟩⟩
theorem vMX3_lift {l : Launch} (hl : l.stackTraces = false) (G : GT) : vM l G (MX3_lift (gg G)) := vM_k RX3 cX3_lift rfl rfl (all_c (vF_RX3_20) (all_n)) all_n all_n all_n all_n (fun h => absurd rfl h) (all_c (kc_57 hl wk_1407) (all_c (kc_69 hl wk_1528) (all_c (kc_72 hl wk_1590) (all_c (kc_47 hl wk_1311) (all_n))))) all_n all_n (fun h => absurd rfl h) rfl all_n
theorem okX3_lift {l : Launch} (hl : l.stackTraces = false) {G : GT} : ∀ (args : List Value) (w : Hw) (S : Ot → Hw → Prop), spOf (MX3_lift (gg G)) args w S → CX l G yX3_lift (.code yX3_lift cX3_lift 3 (some .int)) 6 0 0 args w S := CX_sp (M := MX3_lift (gg G)) (y := yX3_lift) hl (by decide) rfl (vMX3_lift hl G) (fun h => by cases h) rfl
end
/-! 40.model12.lean.txt -/
section
abbrev dX3_pick_0_T : List (Nat × Instr × Nat) := [(0, .aload_n 0, 1), (1, .iload_n 1, 1), (2, .iconst 0, 1), (3, .aload_n 0, 1), (4, .getfield 20, 3), (7, .invokevirtual 174, 3), (10, .iconst 1, 1), (11, .isub, 1), (12, .invokestatic 38, 3), (15, .ifCond .eq 10, 3), (18, .iload_n 2, 1), (19, .invokestatic 111, 3), (22, .ifCond .eq 7, 3), (25, .iconst 1, 1), (26, .goto 4, 3), (29, .iconst 0, 1), (30, .iconst 1, 1), (31, .invokevirtual 54, 3), (34, .ifCond .eq 5, 3), (37, .iconst 0, 1), (38, .ireturn, 1), (39, .aload_n 0, 1), (40, .iload_n 2, 1), (41, .invokevirtual 118, 3), (44, .ifCond .ne 7, 3), (47, .iconst 1, 1), (48, .goto 4, 3), (51, .iconst 0, 1), (52, .invokestatic 92, 3), (55, .istore_n 3, 1), (56, .aload_n 0, 1), (57, .getfield 16, 3), (60, .iload_n 2, 1), (61, .aload_n 0, 1), (62, .getfield 20, 3), (65, .iload_n 1, 1), (66, .invokevirtual 42, 3), (69, .checkcast 125, 3), (72, .invokevirtual 104, 3), (75, .pop, 1)]
theorem dX3_pick_0_D : dtc cX3_pick dX3_pick_0_T = true := by decide +kernel
abbrev dX3_pick_76_T : List (Nat × Instr × Nat) := [(76, .iload_n 3, 1), (77, .ireturn, 1)]
theorem dX3_pick_76_D : dtc cX3_pick dX3_pick_76_T = true := by decide +kernel
def MX3_pick (g : RO) : MT := ((RX3, cX3_pick, 4, 5, 0, 0, false, some .int), [(20, 7, 3), (16, 7, 2)], [], [], [], [], 0, [(174, 2, 1, 3, 1, (fun _ _ => 0), (fun _ _ => 0), yJx4a65c_size_8abf5, spOf (MJx4a65c_size_8abf5 g)), (38, 0, 3, 0, 1, (fun _ _ => 0), (fun _ _ => 0), yX3_isIn, spOf (MX3_isIn g)), (111, 0, 1, 0, 2, (fun _ _ => 0), (fun _ _ => 0), yX3_isNoCard, spOf (MX3_isNoCard g)), (54, 2, 3, 7, 2, (fun _ _ => 0), (fun _ _ => 0), yX3_start, spOf (MX3_start g)), (118, 2, 2, 7, 4, (fun _ _ => 0), (fun _ _ => 0), yX3_isBare, spOf (MX3_isBare g)), (92, 0, 1, 0, 1, (fun _ _ => 0), (fun _ _ => 0), yX3_one, spOf (MX3_one g)), (42, 2, 2, 3, 3, (fun _ _ => 0), (fun _ _ => 0), yJx4a65c_get_915e3, spOf (MJx4a65c_get_915e3 g)), (104, 2, 3, 3, 3, (fun _ _ => 0), (fun _ _ => 0), yJx4a65c_set_bcc79, spOf (MJx4a65c_set_bcc79 g))], [], [(125, 0)], 0, [], [], g)
section
variable {g : RO} {Q : Ot → Hw → Prop} {st : List Value} {w : Hw} {k n p q : Nat} {a b : Int32} {x y : Int64} {u v : Value} {l0 l1 l2 l3 : Option Value}
theorem eX3_pick_0 : WP (MX3_pick g) Q (0, [some (.ref p), l1, l2, l3], st, w, k, n) = WP (MX3_pick g) Q (1, [some (.ref p), l1, l2, l3], .ref p :: st, w, k, n) := alnR_e rfl (dt_q dX3_pick_0_D 0 rfl) rfl
theorem eX3_pick_0N : WP (MX3_pick g) Q (0, [some .null, l1, l2, l3], st, w, k, n) = WP (MX3_pick g) Q (1, [some .null, l1, l2, l3], .null :: st, w, k, n) := alnN_e rfl (dt_q dX3_pick_0_D 0 rfl) rfl
theorem eX3_pick_1 : WP (MX3_pick g) Q (1, [l0, some (.int a), l2, l3], st, w, k, n) = WP (MX3_pick g) Q (2, [l0, some (.int a), l2, l3], .int a :: st, w, k, n) := iln_e rfl (dt_q dX3_pick_0_D 1 rfl) rfl
theorem eX3_pick_2 : WP (MX3_pick g) Q (2, [l0, l1, l2, l3], st, w, k, n) = WP (MX3_pick g) Q (3, [l0, l1, l2, l3], .int 0 :: st, w, k, n) := ic_0 rfl (dt_q dX3_pick_0_D 2 rfl)
theorem eX3_pick_3 : WP (MX3_pick g) Q (3, [some (.ref p), l1, l2, l3], st, w, k, n) = WP (MX3_pick g) Q (4, [some (.ref p), l1, l2, l3], .ref p :: st, w, k, n) := alnR_e rfl (dt_q dX3_pick_0_D 3 rfl) rfl
theorem eX3_pick_3N : WP (MX3_pick g) Q (3, [some .null, l1, l2, l3], st, w, k, n) = WP (MX3_pick g) Q (4, [some .null, l1, l2, l3], .null :: st, w, k, n) := alnN_e rfl (dt_q dX3_pick_0_D 3 rfl) rfl
theorem eX3_pick_4 : WP (MX3_pick g) Q (4, [l0, l1, l2, l3], .ref p :: st, w, k, n) = go (rd g w p) 7 fun fs => ∃ v, fs[3]? = some v ∧ WP (MX3_pick g) Q (7, [l0, l1, l2, l3], v :: st, w, k, n) := get_e rfl (dt_q dX3_pick_0_D 4 rfl) rfl
theorem eX3_pick_7  : WP (MX3_pick g) Q (7, [l0, l1, l2, l3], .ref p :: st, w, k, n) = (go (rd g w p) 3 (fun _ => True) ∧ wt st ≤ 8 ∧ k + 0 ≤ 0 ∧ n + 0 ≤ 0 ∧ WP (MJx4a65c_size_8abf5 g) (kx (fun v w' => WP (MX3_pick g) Q (10, [l0, l1, l2, l3], v.toList ++ st, w', k + 0, n + 0)) (fun E w' => Q (.inr E) w')) (0, [some (.ref p)], [], w, 0, 0)) := csV0 (M := (MX3_pick g)) (mc := (fun _ _ => 0)) (ms := (fun _ _ => 0)) (As := []) (rest := st) (MJx4a65c_size_8abf5 g) rfl rfl rfl (dt_q dX3_pick_0_D 5 rfl) rfl rfl rfl rfl rfl rfl
theorem eX3_pick_10 : WP (MX3_pick g) Q (10, [l0, l1, l2, l3], st, w, k, n) = WP (MX3_pick g) Q (11, [l0, l1, l2, l3], .int 1 :: st, w, k, n) := ic_1 rfl (dt_q dX3_pick_0_D 6 rfl)
theorem eX3_pick_11 : WP (MX3_pick g) Q (11, [l0, l1, l2, l3], .int b :: .int a :: st, w, k, n) = WP (MX3_pick g) Q (12, [l0, l1, l2, l3], .int (a - b) :: st, w, k, n) := isub_e rfl (dt_q dX3_pick_0_D 7 rfl)
theorem eX3_pick_12 {z0 : Int32} {z1 : Int32} {z2 : Int32} : WP (MX3_pick g) Q (12, [l0, l1, l2, l3], .int z2 :: .int z1 :: .int z0 :: st, w, k, n) = (wt st ≤ 8 ∧ k + 0 ≤ 0 ∧ n + 0 ≤ 0 ∧ WP (MX3_isIn g) (kx (fun v w' => WP (MX3_pick g) Q (15, [l0, l1, l2, l3], v.toList ++ st, w', k + 0, n + 0)) (fun E w' => Q (.inr E) w')) (0, [some (.int z0), some (.int z1), some (.int z2)], [], w, 0, 0)) := csS0 (M := (MX3_pick g)) (mc := (fun _ _ => 0)) (ms := (fun _ _ => 0)) (As := [.int z0, .int z1, .int z2]) (rest := st) (MX3_isIn g) rfl rfl rfl (dt_q dX3_pick_0_D 8 rfl) rfl rfl rfl rfl rfl rfl rfl
theorem eX3_pick_15 : WP (MX3_pick g) Q (15, [l0, l1, l2, l3], .int a :: st, w, k, n) = if a = 0 then WP (MX3_pick g) Q (25, [l0, l1, l2, l3], st, w, k, n) else WP (MX3_pick g) Q (18, [l0, l1, l2, l3], st, w, k, n) := ifc_e (a = 0) rfl (dt_q dX3_pick_0_D 9 rfl) rfl (by decide)
theorem eX3_pick_18 : WP (MX3_pick g) Q (18, [l0, l1, some (.int a), l3], st, w, k, n) = WP (MX3_pick g) Q (19, [l0, l1, some (.int a), l3], .int a :: st, w, k, n) := iln_e rfl (dt_q dX3_pick_0_D 10 rfl) rfl
theorem eX3_pick_19 {z0 : Int32} : WP (MX3_pick g) Q (19, [l0, l1, l2, l3], .int z0 :: st, w, k, n) = (wt st ≤ 8 ∧ k + 0 ≤ 0 ∧ n + 0 ≤ 0 ∧ WP (MX3_isNoCard g) (kx (fun v w' => WP (MX3_pick g) Q (22, [l0, l1, l2, l3], v.toList ++ st, w', k + 0, n + 0)) (fun E w' => Q (.inr E) w')) (0, [some (.int z0)], [], w, 0, 0)) := csS0 (M := (MX3_pick g)) (mc := (fun _ _ => 0)) (ms := (fun _ _ => 0)) (As := [.int z0]) (rest := st) (MX3_isNoCard g) rfl rfl rfl (dt_q dX3_pick_0_D 11 rfl) rfl rfl rfl rfl rfl rfl rfl
theorem eX3_pick_22 : WP (MX3_pick g) Q (22, [l0, l1, l2, l3], .int a :: st, w, k, n) = if a = 0 then WP (MX3_pick g) Q (29, [l0, l1, l2, l3], st, w, k, n) else WP (MX3_pick g) Q (25, [l0, l1, l2, l3], st, w, k, n) := ifc_e (a = 0) rfl (dt_q dX3_pick_0_D 12 rfl) rfl (by decide)
theorem eX3_pick_25 : WP (MX3_pick g) Q (25, [l0, l1, l2, l3], st, w, k, n) = WP (MX3_pick g) Q (26, [l0, l1, l2, l3], .int 1 :: st, w, k, n) := ic_1 rfl (dt_q dX3_pick_0_D 13 rfl)
theorem eX3_pick_26 : WP (MX3_pick g) Q (26, [l0, l1, l2, l3], st, w, k, n) = WP (MX3_pick g) Q (30, [l0, l1, l2, l3], st, w, k, n) := goto_e rfl (dt_q dX3_pick_0_D 14 rfl) (by decide)
theorem eX3_pick_29 : WP (MX3_pick g) Q (29, [l0, l1, l2, l3], st, w, k, n) = WP (MX3_pick g) Q (30, [l0, l1, l2, l3], .int 0 :: st, w, k, n) := ic_0 rfl (dt_q dX3_pick_0_D 15 rfl)
theorem eX3_pick_30 : WP (MX3_pick g) Q (30, [l0, l1, l2, l3], st, w, k, n) = WP (MX3_pick g) Q (31, [l0, l1, l2, l3], .int 1 :: st, w, k, n) := ic_1 rfl (dt_q dX3_pick_0_D 16 rfl)
theorem eX3_pick_31 {z0 : Int32} {z1 : Int32} : WP (MX3_pick g) Q (31, [l0, l1, l2, l3], .int z1 :: .int z0 :: .ref p :: st, w, k, n) = (go (rd g w p) 7 (fun _ => True) ∧ wt st ≤ 8 ∧ k + 0 ≤ 0 ∧ n + 0 ≤ 0 ∧ WP (MX3_start g) (kx (fun v w' => WP (MX3_pick g) Q (34, [l0, l1, l2, l3], v.toList ++ st, w', k + 0, n + 0)) (fun E w' => Q (.inr E) w')) (0, [some (.ref p), some (.int z0), some (.int z1)], [], w, 0, 0)) := csV0 (M := (MX3_pick g)) (mc := (fun _ _ => 0)) (ms := (fun _ _ => 0)) (As := [.int z0, .int z1]) (rest := st) (MX3_start g) rfl rfl rfl (dt_q dX3_pick_0_D 17 rfl) rfl rfl rfl rfl rfl rfl
theorem eX3_pick_34 : WP (MX3_pick g) Q (34, [l0, l1, l2, l3], .int a :: st, w, k, n) = if a = 0 then WP (MX3_pick g) Q (39, [l0, l1, l2, l3], st, w, k, n) else WP (MX3_pick g) Q (37, [l0, l1, l2, l3], st, w, k, n) := ifc_e (a = 0) rfl (dt_q dX3_pick_0_D 18 rfl) rfl (by decide)
theorem eX3_pick_37 : WP (MX3_pick g) Q (37, [l0, l1, l2, l3], st, w, k, n) = WP (MX3_pick g) Q (38, [l0, l1, l2, l3], .int 0 :: st, w, k, n) := ic_0 rfl (dt_q dX3_pick_0_D 19 rfl)
theorem eX3_pick_38 : WP (MX3_pick g) Q (38, [l0, l1, l2, l3], [.int a], w, k, n) = (k ≤ 0 ∧ n ≤ 0 ∧ Q (.inl (some (.int a))) w) := iretI_e rfl (dt_q dX3_pick_0_D 20 rfl) rfl
theorem eX3_pick_39 : WP (MX3_pick g) Q (39, [some (.ref p), l1, l2, l3], st, w, k, n) = WP (MX3_pick g) Q (40, [some (.ref p), l1, l2, l3], .ref p :: st, w, k, n) := alnR_e rfl (dt_q dX3_pick_0_D 21 rfl) rfl
theorem eX3_pick_39N : WP (MX3_pick g) Q (39, [some .null, l1, l2, l3], st, w, k, n) = WP (MX3_pick g) Q (40, [some .null, l1, l2, l3], .null :: st, w, k, n) := alnN_e rfl (dt_q dX3_pick_0_D 21 rfl) rfl
theorem eX3_pick_40 : WP (MX3_pick g) Q (40, [l0, l1, some (.int a), l3], st, w, k, n) = WP (MX3_pick g) Q (41, [l0, l1, some (.int a), l3], .int a :: st, w, k, n) := iln_e rfl (dt_q dX3_pick_0_D 22 rfl) rfl
theorem eX3_pick_41 {z0 : Int32} : WP (MX3_pick g) Q (41, [l0, l1, l2, l3], .int z0 :: .ref p :: st, w, k, n) = (go (rd g w p) 7 (fun _ => True) ∧ wt st ≤ 8 ∧ k + 0 ≤ 0 ∧ n + 0 ≤ 0 ∧ WP (MX3_isBare g) (kx (fun v w' => WP (MX3_pick g) Q (44, [l0, l1, l2, l3], v.toList ++ st, w', k + 0, n + 0)) (fun E w' => Q (.inr E) w')) (0, [some (.ref p), some (.int z0)], [], w, 0, 0)) := csV0 (M := (MX3_pick g)) (mc := (fun _ _ => 0)) (ms := (fun _ _ => 0)) (As := [.int z0]) (rest := st) (MX3_isBare g) rfl rfl rfl (dt_q dX3_pick_0_D 23 rfl) rfl rfl rfl rfl rfl rfl
theorem eX3_pick_44 : WP (MX3_pick g) Q (44, [l0, l1, l2, l3], .int a :: st, w, k, n) = if a = 0 then WP (MX3_pick g) Q (47, [l0, l1, l2, l3], st, w, k, n) else WP (MX3_pick g) Q (51, [l0, l1, l2, l3], st, w, k, n) := ifcn_e (a = 0) rfl (dt_q dX3_pick_0_D 24 rfl) rfl (by decide)
theorem eX3_pick_47 : WP (MX3_pick g) Q (47, [l0, l1, l2, l3], st, w, k, n) = WP (MX3_pick g) Q (48, [l0, l1, l2, l3], .int 1 :: st, w, k, n) := ic_1 rfl (dt_q dX3_pick_0_D 25 rfl)
theorem eX3_pick_48 : WP (MX3_pick g) Q (48, [l0, l1, l2, l3], st, w, k, n) = WP (MX3_pick g) Q (52, [l0, l1, l2, l3], st, w, k, n) := goto_e rfl (dt_q dX3_pick_0_D 26 rfl) (by decide)
theorem eX3_pick_51 : WP (MX3_pick g) Q (51, [l0, l1, l2, l3], st, w, k, n) = WP (MX3_pick g) Q (52, [l0, l1, l2, l3], .int 0 :: st, w, k, n) := ic_0 rfl (dt_q dX3_pick_0_D 27 rfl)
theorem eX3_pick_52 {z0 : Int32} : WP (MX3_pick g) Q (52, [l0, l1, l2, l3], .int z0 :: st, w, k, n) = (wt st ≤ 8 ∧ k + 0 ≤ 0 ∧ n + 0 ≤ 0 ∧ WP (MX3_one g) (kx (fun v w' => WP (MX3_pick g) Q (55, [l0, l1, l2, l3], v.toList ++ st, w', k + 0, n + 0)) (fun E w' => Q (.inr E) w')) (0, [some (.int z0)], [], w, 0, 0)) := csS0 (M := (MX3_pick g)) (mc := (fun _ _ => 0)) (ms := (fun _ _ => 0)) (As := [.int z0]) (rest := st) (MX3_one g) rfl rfl rfl (dt_q dX3_pick_0_D 28 rfl) rfl rfl rfl rfl rfl rfl rfl
theorem eX3_pick_55 : WP (MX3_pick g) Q (55, [l0, l1, l2, l3], .int a :: st, w, k, n) = WP (MX3_pick g) Q (56, [l0, l1, nl l2, some (.int a)], st, w, k, n) := isn_e rfl (dt_q dX3_pick_0_D 29 rfl) rfl rfl
theorem eX3_pick_56 : WP (MX3_pick g) Q (56, [some (.ref p), l1, l2, l3], st, w, k, n) = WP (MX3_pick g) Q (57, [some (.ref p), l1, l2, l3], .ref p :: st, w, k, n) := alnR_e rfl (dt_q dX3_pick_0_D 30 rfl) rfl
theorem eX3_pick_56N : WP (MX3_pick g) Q (56, [some .null, l1, l2, l3], st, w, k, n) = WP (MX3_pick g) Q (57, [some .null, l1, l2, l3], .null :: st, w, k, n) := alnN_e rfl (dt_q dX3_pick_0_D 30 rfl) rfl
theorem eX3_pick_57 : WP (MX3_pick g) Q (57, [l0, l1, l2, l3], .ref p :: st, w, k, n) = go (rd g w p) 7 fun fs => ∃ v, fs[2]? = some v ∧ WP (MX3_pick g) Q (60, [l0, l1, l2, l3], v :: st, w, k, n) := get_e rfl (dt_q dX3_pick_0_D 31 rfl) rfl
theorem eX3_pick_60 : WP (MX3_pick g) Q (60, [l0, l1, some (.int a), l3], st, w, k, n) = WP (MX3_pick g) Q (61, [l0, l1, some (.int a), l3], .int a :: st, w, k, n) := iln_e rfl (dt_q dX3_pick_0_D 32 rfl) rfl
theorem eX3_pick_61 : WP (MX3_pick g) Q (61, [some (.ref p), l1, l2, l3], st, w, k, n) = WP (MX3_pick g) Q (62, [some (.ref p), l1, l2, l3], .ref p :: st, w, k, n) := alnR_e rfl (dt_q dX3_pick_0_D 33 rfl) rfl
theorem eX3_pick_61N : WP (MX3_pick g) Q (61, [some .null, l1, l2, l3], st, w, k, n) = WP (MX3_pick g) Q (62, [some .null, l1, l2, l3], .null :: st, w, k, n) := alnN_e rfl (dt_q dX3_pick_0_D 33 rfl) rfl
theorem eX3_pick_62 : WP (MX3_pick g) Q (62, [l0, l1, l2, l3], .ref p :: st, w, k, n) = go (rd g w p) 7 fun fs => ∃ v, fs[3]? = some v ∧ WP (MX3_pick g) Q (65, [l0, l1, l2, l3], v :: st, w, k, n) := get_e rfl (dt_q dX3_pick_0_D 34 rfl) rfl
theorem eX3_pick_65 : WP (MX3_pick g) Q (65, [l0, some (.int a), l2, l3], st, w, k, n) = WP (MX3_pick g) Q (66, [l0, some (.int a), l2, l3], .int a :: st, w, k, n) := iln_e rfl (dt_q dX3_pick_0_D 35 rfl) rfl
theorem eX3_pick_66 {z0 : Int32} : WP (MX3_pick g) Q (66, [l0, l1, l2, l3], .int z0 :: .ref p :: st, w, k, n) = (go (rd g w p) 3 (fun _ => True) ∧ wt st ≤ 8 ∧ k + 0 ≤ 0 ∧ n + 0 ≤ 0 ∧ WP (MJx4a65c_get_915e3 g) (kx (fun v w' => WP (MX3_pick g) Q (69, [l0, l1, l2, l3], v.toList ++ st, w', k + 0, n + 0)) (fun E w' => Q (.inr E) w')) (0, [some (.ref p), some (.int z0)], [], w, 0, 0)) := csV0 (M := (MX3_pick g)) (mc := (fun _ _ => 0)) (ms := (fun _ _ => 0)) (As := [.int z0]) (rest := st) (MJx4a65c_get_915e3 g) rfl rfl rfl (dt_q dX3_pick_0_D 36 rfl) rfl rfl rfl rfl rfl rfl
theorem eX3_pick_69N : WP (MX3_pick g) Q (69, [l0, l1, l2, l3], .null :: st, w, k, n) = WP (MX3_pick g) Q (72, [l0, l1, l2, l3], .null :: st, w, k, n) := castN_e rfl (dt_q dX3_pick_0_D 37 rfl)
theorem eX3_pick_69R : WP (MX3_pick g) Q (69, [l0, l1, l2, l3], .ref p :: st, w, k, n) = ((∃ x, w p = some (.inl (0, x))) ∧ WP (MX3_pick g) Q (72, [l0, l1, l2, l3], .ref p :: st, w, k, n)) := castR_e rfl (dt_q dX3_pick_0_D 37 rfl) rfl
theorem eX3_pick_72R {z0 : Int32} {z1 : Nat} : WP (MX3_pick g) Q (72, [l0, l1, l2, l3], .ref z1 :: .int z0 :: .ref p :: st, w, k, n) = (go (rd g w p) 3 (fun _ => True) ∧ wt st ≤ 8 ∧ k + 0 ≤ 0 ∧ n + 0 ≤ 0 ∧ WP (MJx4a65c_set_bcc79 g) (kx (fun v w' => WP (MX3_pick g) Q (75, [l0, l1, l2, l3], v.toList ++ st, w', k + 0, n + 0)) (fun E w' => Q (.inr E) w')) (0, [some (.ref p), some (.int z0), some (.ref z1), none], [], w, 0, 0)) := csV0 (M := (MX3_pick g)) (mc := (fun _ _ => 0)) (ms := (fun _ _ => 0)) (As := [.int z0, .ref z1]) (rest := st) (MJx4a65c_set_bcc79 g) rfl rfl rfl (dt_q dX3_pick_0_D 38 rfl) rfl rfl rfl rfl rfl rfl
theorem eX3_pick_72N {z0 : Int32} : WP (MX3_pick g) Q (72, [l0, l1, l2, l3], .null :: .int z0 :: .ref p :: st, w, k, n) = (go (rd g w p) 3 (fun _ => True) ∧ wt st ≤ 8 ∧ k + 0 ≤ 0 ∧ n + 0 ≤ 0 ∧ WP (MJx4a65c_set_bcc79 g) (kx (fun v w' => WP (MX3_pick g) Q (75, [l0, l1, l2, l3], v.toList ++ st, w', k + 0, n + 0)) (fun E w' => Q (.inr E) w')) (0, [some (.ref p), some (.int z0), some .null, none], [], w, 0, 0)) := csV0 (M := (MX3_pick g)) (mc := (fun _ _ => 0)) (ms := (fun _ _ => 0)) (As := [.int z0, .null]) (rest := st) (MJx4a65c_set_bcc79 g) rfl rfl rfl (dt_q dX3_pick_0_D 38 rfl) rfl rfl rfl rfl rfl rfl
theorem eX3_pick_75 : WP (MX3_pick g) Q (75, [l0, l1, l2, l3], .int a :: st, w, k, n) = WP (MX3_pick g) Q (76, [l0, l1, l2, l3], st, w, k, n) := popI_e rfl (dt_q dX3_pick_0_D 39 rfl)
theorem eX3_pick_75R : WP (MX3_pick g) Q (75, [l0, l1, l2, l3], .ref p :: st, w, k, n) = WP (MX3_pick g) Q (76, [l0, l1, l2, l3], st, w, k, n) := popR_e rfl (dt_q dX3_pick_0_D 39 rfl)
theorem eX3_pick_75N : WP (MX3_pick g) Q (75, [l0, l1, l2, l3], .null :: st, w, k, n) = WP (MX3_pick g) Q (76, [l0, l1, l2, l3], st, w, k, n) := popN_e rfl (dt_q dX3_pick_0_D 39 rfl)
theorem eX3_pick_76 : WP (MX3_pick g) Q (76, [l0, l1, l2, some (.int a)], st, w, k, n) = WP (MX3_pick g) Q (77, [l0, l1, l2, some (.int a)], .int a :: st, w, k, n) := iln_e rfl (dt_q dX3_pick_76_D 0 rfl) rfl
set_option maxRecDepth 20000 in
theorem eX3_pick_77 : WP (MX3_pick g) Q (77, [l0, l1, l2, l3], [.int a], w, k, n) = (k ≤ 0 ∧ n ≤ 0 ∧ Q (.inl (some (.int a))) w) := iretI_e rfl (dt_q dX3_pick_76_D 1 rfl) rfl
end
theorem vMX3_pick {l : Launch} (hl : l.stackTraces = false) (G : GT) : vM l G (MX3_pick (gg G)) := vM_k RX3 cX3_pick rfl rfl (all_c (vF_RX3_20) (all_c (vF_RX3_16) (all_n))) all_n all_n all_n all_n (fun h => absurd rfl h) (all_c (kc_68 hl wk_1520) (all_c (kc_36 hl wk_1225) (all_c (kc_51 hl wk_1318) (all_c (kc_39 hl wk_1228) (all_c (kc_53 hl wk_1372) (all_c (kc_47 hl wk_1311) (all_c (kc_37 hl wk_1376) (all_c (kc_50 hl wk_1332) (all_n))))))))) all_n (all_c (⟨.long, rfl, (fun C h => by cases h), wk_1380⟩) (all_n)) (fun h => absurd rfl h) rfl all_n
theorem okX3_pick {l : Launch} (hl : l.stackTraces = false) {G : GT} : ∀ (args : List Value) (w : Hw) (S : Ot → Hw → Prop), spOf (MX3_pick (gg G)) args w S → CX l G yX3_pick (.code yX3_pick cX3_pick 4 (some .int)) 5 0 0 args w S := CX_sp (M := MX3_pick (gg G)) (y := yX3_pick) hl (by decide) rfl (vMX3_pick hl G) (fun h => by cases h) rfl
abbrev dX3_turn_0_T : List (Nat × Instr × Nat) := [(0, .aload_n 0, 1), (1, .iconst 0, 1), (2, .putfield 27, 3), (5, .new 13, 3), (8, .dup, 1), (9, .invokespecial 15, 3), (12, .astore_n 1, 1), (13, .aload_n 0, 1), (14, .getfield 20, 3), (17, .invokevirtual 181, 3), (20, .astore_n 2, 1), (21, .aload_n 2, 1), (22, .invokeinterface 185 1, 5), (27, .ifCond .eq 22, 3), (30, .aload_n 2, 1), (31, .invokeinterface 191 1, 5), (36, .checkcast 125, 3), (39, .astore_n 3, 1), (40, .aload_n 1, 1), (41, .iconst 0, 1), (42, .aload_n 3, 1), (43, .invokevirtual 201, 3), (46, .goto (-25), 3), (49, .aload_n 0, 1), (50, .aload_n 1, 1), (51, .putfield 20, 3), (54, .aload_n 0, 1), (55, .getfield 20, 3), (58, .invokevirtual 174, 3), (61, .ireturn, 1)]
theorem dX3_turn_0_D : dtc cX3_turn dX3_turn_0_T = true := by decide +kernel
def MX3_turn (g : RO) : MT := ((RX3, cX3_turn, 4, 6, 14, 187, false, some .int), [(27, 7, 0), (20, 7, 3)], [(13, 3, [.int 0, .null, .int 0])], [], [], [], 0, [(15, 4, 1, 3, 3, (fun _ _ => 0), (fun _ _ => 0), yJx4a65c_init_da8c8, spOf (MJx4a65c_init_da8c8 g)), (181, 2, 1, 3, 2, (fun _ _ => 1), (fun _ _ => 4), yJx4a65c_iterator_32c93, spOf (MJx4a65c_iterator_32c93 g)), (185, 6, 1, 2, 1, (fun _ _ => 0), (fun _ _ => 0), yJx35411_hasNext_aae02, spOf (MJx35411_hasNext_aae02 g)), (191, 6, 1, 2, 2, (fun _ _ => 0), (fun _ _ => 0), yJx35411_next_0502b, spOf (MJx35411_next_0502b g)), (201, 2, 3, 3, 5, (fun _ _ => 1), (fun _ _ => 15), yJx4a65c_add_7a177, spOf (MJx4a65c_add_7a177 g)), (174, 2, 1, 3, 1, (fun _ _ => 0), (fun _ _ => 0), yJx4a65c_size_8abf5, spOf (MJx4a65c_size_8abf5 g))], [], [(125, 0)], 0, [], [], g)
section
variable {g : RO} {Q : Ot → Hw → Prop} {st : List Value} {w : Hw} {k n p q : Nat} {a b : Int32} {x y : Int64} {u v : Value} {l0 l1 l2 l3 : Option Value}
theorem eX3_turn_0 : WP (MX3_turn g) Q (0, [some (.ref p), l1, l2, l3], st, w, k, n) = WP (MX3_turn g) Q (1, [some (.ref p), l1, l2, l3], .ref p :: st, w, k, n) := alnR_e rfl (dt_q dX3_turn_0_D 0 rfl) rfl
theorem eX3_turn_0N : WP (MX3_turn g) Q (0, [some .null, l1, l2, l3], st, w, k, n) = WP (MX3_turn g) Q (1, [some .null, l1, l2, l3], .null :: st, w, k, n) := alnN_e rfl (dt_q dX3_turn_0_D 0 rfl) rfl
theorem eX3_turn_1 : WP (MX3_turn g) Q (1, [l0, l1, l2, l3], st, w, k, n) = WP (MX3_turn g) Q (2, [l0, l1, l2, l3], .int 0 :: st, w, k, n) := ic_0 rfl (dt_q dX3_turn_0_D 1 rfl)
theorem eX3_turn_2 : WP (MX3_turn g) Q (2, [l0, l1, l2, l3], v :: .ref p :: st, w, k, n) = go (w p) 7 fun fs => 0 < fs.length ∧ (narrow (.int) v = v ∧ fits (.int) v = true) ∧ WP (MX3_turn g) Q (5, [l0, l1, l2, l3], st, upw w p (.inr (7, fs.set 0 v)), k, n) := put_e (q := (RX3, TX3, 7)) rfl (dt_q dX3_turn_0_D 2 rfl) rfl rfl (tyX3_ok 0 (by decide)) (Or.inl rfl)
theorem eX3_turn_5 : WP (MX3_turn g) Q (5, [l0, l1, l2, l3], st, w, k, n) = (k + 1 ≤ 14 ∧ n + 3 ≤ 187 ∧ ∀ q : Nat, rd g w q = none → WP (MX3_turn g) Q (8, [l0, l1, l2, l3], .ref q :: st, upw w q (.inr (3, [.int 0, .null, .int 0])), k + 1, n + 3)) := Eq.trans (new_e (M := (MX3_turn g)) (fs := [.int 0, .null, .int 0]) rfl (dt_q dX3_turn_0_D 3 rfl) rfl) rfl
theorem eX3_turn_8 : WP (MX3_turn g) Q (8, [l0, l1, l2, l3], .int a :: st, w, k, n) = WP (MX3_turn g) Q (9, [l0, l1, l2, l3], .int a :: .int a :: st, w, k, n) := dupI_e rfl (dt_q dX3_turn_0_D 4 rfl)
theorem eX3_turn_8R : WP (MX3_turn g) Q (8, [l0, l1, l2, l3], .ref p :: st, w, k, n) = WP (MX3_turn g) Q (9, [l0, l1, l2, l3], .ref p :: .ref p :: st, w, k, n) := dupR_e rfl (dt_q dX3_turn_0_D 4 rfl)
theorem eX3_turn_9  : WP (MX3_turn g) Q (9, [l0, l1, l2, l3], .ref p :: st, w, k, n) = (wt st ≤ 8 ∧ k + 0 ≤ 14 ∧ n + 0 ≤ 187 ∧ WP (MJx4a65c_init_da8c8 g) (kx (fun v w' => WP (MX3_turn g) Q (12, [l0, l1, l2, l3], v.toList ++ st, w', k + 0, n + 0)) (fun E w' => Q (.inr E) w')) (0, [some (.ref p)], [], w, 0, 0)) := csI (M := (MX3_turn g)) (mc := (fun _ _ => 0)) (ms := (fun _ _ => 0)) (As := []) (rest := st) (MJx4a65c_init_da8c8 g) rfl rfl (dt_q dX3_turn_0_D 5 rfl) (Nat.ne_of_beq_eq_false rfl) rfl rfl (Nat.le_of_ble_eq_true rfl) (Nat.le_of_ble_eq_true rfl) rfl
theorem eX3_turn_12 : WP (MX3_turn g) Q (12, [l0, l1, l2, l3], .ref p :: st, w, k, n) = WP (MX3_turn g) Q (13, [nl l0, some (.ref p), l2, l3], st, w, k, n) := asnR_e rfl (dt_q dX3_turn_0_D 6 rfl) rfl rfl
theorem eX3_turn_12N : WP (MX3_turn g) Q (12, [l0, l1, l2, l3], .null :: st, w, k, n) = WP (MX3_turn g) Q (13, [nl l0, some (.null), l2, l3], st, w, k, n) := asnN_e rfl (dt_q dX3_turn_0_D 6 rfl) rfl rfl
theorem eX3_turn_13 : WP (MX3_turn g) Q (13, [some (.ref p), l1, l2, l3], st, w, k, n) = WP (MX3_turn g) Q (14, [some (.ref p), l1, l2, l3], .ref p :: st, w, k, n) := alnR_e rfl (dt_q dX3_turn_0_D 7 rfl) rfl
theorem eX3_turn_13N : WP (MX3_turn g) Q (13, [some .null, l1, l2, l3], st, w, k, n) = WP (MX3_turn g) Q (14, [some .null, l1, l2, l3], .null :: st, w, k, n) := alnN_e rfl (dt_q dX3_turn_0_D 7 rfl) rfl
theorem eX3_turn_14 : WP (MX3_turn g) Q (14, [l0, l1, l2, l3], .ref p :: st, w, k, n) = go (rd g w p) 7 fun fs => ∃ v, fs[3]? = some v ∧ WP (MX3_turn g) Q (17, [l0, l1, l2, l3], v :: st, w, k, n) := get_e rfl (dt_q dX3_turn_0_D 8 rfl) rfl
theorem eX3_turn_17  : WP (MX3_turn g) Q (17, [l0, l1, l2, l3], .ref p :: st, w, k, n) = (go (rd g w p) 3 (fun _ => True) ∧ wt st ≤ 8 ∧ k + 1 ≤ 14 ∧ n + 4 ≤ 187 ∧ WP (MJx4a65c_iterator_32c93 g) (kx (fun v w' => WP (MX3_turn g) Q (20, [l0, l1, l2, l3], v.toList ++ st, w', k + 1, n + 4)) (fun E w' => Q (.inr E) w')) (0, [some (.ref p)], [], w, 0, 0)) := csV0 (M := (MX3_turn g)) (mc := (fun _ _ => 1)) (ms := (fun _ _ => 4)) (As := []) (rest := st) (MJx4a65c_iterator_32c93 g) rfl rfl rfl (dt_q dX3_turn_0_D 9 rfl) rfl rfl rfl rfl rfl rfl
theorem eX3_turn_20 : WP (MX3_turn g) Q (20, [l0, l1, l2, l3], .ref p :: st, w, k, n) = WP (MX3_turn g) Q (21, [l0, nl l1, some (.ref p), l3], st, w, k, n) := asnR_e rfl (dt_q dX3_turn_0_D 10 rfl) rfl rfl
theorem eX3_turn_20N : WP (MX3_turn g) Q (20, [l0, l1, l2, l3], .null :: st, w, k, n) = WP (MX3_turn g) Q (21, [l0, nl l1, some (.null), l3], st, w, k, n) := asnN_e rfl (dt_q dX3_turn_0_D 10 rfl) rfl rfl
theorem eX3_turn_21 : WP (MX3_turn g) Q (21, [l0, l1, some (.ref p), l3], st, w, k, n) = WP (MX3_turn g) Q (22, [l0, l1, some (.ref p), l3], .ref p :: st, w, k, n) := alnR_e rfl (dt_q dX3_turn_0_D 11 rfl) rfl
theorem eX3_turn_22  : WP (MX3_turn g) Q (22, [l0, l1, l2, l3], .ref p :: st, w, k, n) = (go (rd g w p) 2 (fun _ => True) ∧ wt st ≤ 8 ∧ k + 0 ≤ 14 ∧ n + 0 ≤ 187 ∧ WP (MJx35411_hasNext_aae02 g) (kx (fun v w' => WP (MX3_turn g) Q (27, [l0, l1, l2, l3], v.toList ++ st, w', k + 0, n + 0)) (fun E w' => Q (.inr E) w')) (0, [some (.ref p)], [], w, 0, 0)) := csF (M := (MX3_turn g)) (mc := (fun _ _ => 0)) (ms := (fun _ _ => 0)) (As := []) (rest := st) (MJx35411_hasNext_aae02 g) rfl rfl (dt_q dX3_turn_0_D 12 rfl) rfl rfl (Nat.le_of_ble_eq_true rfl) (Nat.le_of_ble_eq_true rfl) rfl
theorem eX3_turn_27 : WP (MX3_turn g) Q (27, [l0, l1, l2, l3], .int a :: st, w, k, n) = if a = 0 then WP (MX3_turn g) Q (49, [l0, l1, l2, l3], st, w, k, n) else WP (MX3_turn g) Q (30, [l0, l1, l2, l3], st, w, k, n) := ifc_e (a = 0) rfl (dt_q dX3_turn_0_D 13 rfl) rfl (by decide)
theorem eX3_turn_30 : WP (MX3_turn g) Q (30, [l0, l1, some (.ref p), l3], st, w, k, n) = WP (MX3_turn g) Q (31, [l0, l1, some (.ref p), l3], .ref p :: st, w, k, n) := alnR_e rfl (dt_q dX3_turn_0_D 14 rfl) rfl
theorem eX3_turn_30N : WP (MX3_turn g) Q (30, [l0, l1, some .null, l3], st, w, k, n) = WP (MX3_turn g) Q (31, [l0, l1, some .null, l3], .null :: st, w, k, n) := alnN_e rfl (dt_q dX3_turn_0_D 14 rfl) rfl
theorem eX3_turn_31  : WP (MX3_turn g) Q (31, [l0, l1, l2, l3], .ref p :: st, w, k, n) = (go (rd g w p) 2 (fun _ => True) ∧ wt st ≤ 8 ∧ k + 0 ≤ 14 ∧ n + 0 ≤ 187 ∧ WP (MJx35411_next_0502b g) (kx (fun v w' => WP (MX3_turn g) Q (36, [l0, l1, l2, l3], v.toList ++ st, w', k + 0, n + 0)) (fun E w' => Q (.inr E) w')) (0, [some (.ref p), none, none], [], w, 0, 0)) := csF (M := (MX3_turn g)) (mc := (fun _ _ => 0)) (ms := (fun _ _ => 0)) (As := []) (rest := st) (MJx35411_next_0502b g) rfl rfl (dt_q dX3_turn_0_D 15 rfl) rfl rfl (Nat.le_of_ble_eq_true rfl) (Nat.le_of_ble_eq_true rfl) rfl
theorem eX3_turn_36N : WP (MX3_turn g) Q (36, [l0, l1, l2, l3], .null :: st, w, k, n) = WP (MX3_turn g) Q (39, [l0, l1, l2, l3], .null :: st, w, k, n) := castN_e rfl (dt_q dX3_turn_0_D 16 rfl)
theorem eX3_turn_36R : WP (MX3_turn g) Q (36, [l0, l1, l2, l3], .ref p :: st, w, k, n) = ((∃ x, w p = some (.inl (0, x))) ∧ WP (MX3_turn g) Q (39, [l0, l1, l2, l3], .ref p :: st, w, k, n)) := castR_e rfl (dt_q dX3_turn_0_D 16 rfl) rfl
theorem eX3_turn_39 : WP (MX3_turn g) Q (39, [l0, l1, l2, l3], .ref p :: st, w, k, n) = WP (MX3_turn g) Q (40, [l0, l1, nl l2, some (.ref p)], st, w, k, n) := asnR_e rfl (dt_q dX3_turn_0_D 17 rfl) rfl rfl
theorem eX3_turn_39N : WP (MX3_turn g) Q (39, [l0, l1, l2, l3], .null :: st, w, k, n) = WP (MX3_turn g) Q (40, [l0, l1, nl l2, some (.null)], st, w, k, n) := asnN_e rfl (dt_q dX3_turn_0_D 17 rfl) rfl rfl
theorem eX3_turn_40 : WP (MX3_turn g) Q (40, [l0, some (.ref p), l2, l3], st, w, k, n) = WP (MX3_turn g) Q (41, [l0, some (.ref p), l2, l3], .ref p :: st, w, k, n) := alnR_e rfl (dt_q dX3_turn_0_D 18 rfl) rfl
theorem eX3_turn_40N : WP (MX3_turn g) Q (40, [l0, some .null, l2, l3], st, w, k, n) = WP (MX3_turn g) Q (41, [l0, some .null, l2, l3], .null :: st, w, k, n) := alnN_e rfl (dt_q dX3_turn_0_D 18 rfl) rfl
theorem eX3_turn_41 : WP (MX3_turn g) Q (41, [l0, l1, l2, l3], st, w, k, n) = WP (MX3_turn g) Q (42, [l0, l1, l2, l3], .int 0 :: st, w, k, n) := ic_0 rfl (dt_q dX3_turn_0_D 19 rfl)
theorem eX3_turn_42 : WP (MX3_turn g) Q (42, [l0, l1, l2, some (.ref p)], st, w, k, n) = WP (MX3_turn g) Q (43, [l0, l1, l2, some (.ref p)], .ref p :: st, w, k, n) := alnR_e rfl (dt_q dX3_turn_0_D 20 rfl) rfl
theorem eX3_turn_42N : WP (MX3_turn g) Q (42, [l0, l1, l2, some .null], st, w, k, n) = WP (MX3_turn g) Q (43, [l0, l1, l2, some .null], .null :: st, w, k, n) := alnN_e rfl (dt_q dX3_turn_0_D 20 rfl) rfl
theorem eX3_turn_43R {z0 : Int32} {z1 : Nat} : WP (MX3_turn g) Q (43, [l0, l1, l2, l3], .ref z1 :: .int z0 :: .ref p :: st, w, k, n) = (go (rd g w p) 3 (fun _ => True) ∧ wt st ≤ 8 ∧ k + 1 ≤ 14 ∧ n + 15 ≤ 187 ∧ WP (MJx4a65c_add_7a177 g) (kx (fun v w' => WP (MX3_turn g) Q (46, [l0, l1, l2, l3], v.toList ++ st, w', k + 1, n + 15)) (fun E w' => Q (.inr E) w')) (0, [some (.ref p), some (.int z0), some (.ref z1), none, none], [], w, 0, 0)) := csV0 (M := (MX3_turn g)) (mc := (fun _ _ => 1)) (ms := (fun _ _ => 15)) (As := [.int z0, .ref z1]) (rest := st) (MJx4a65c_add_7a177 g) rfl rfl rfl (dt_q dX3_turn_0_D 21 rfl) rfl rfl rfl rfl rfl rfl
theorem eX3_turn_43N {z0 : Int32} : WP (MX3_turn g) Q (43, [l0, l1, l2, l3], .null :: .int z0 :: .ref p :: st, w, k, n) = (go (rd g w p) 3 (fun _ => True) ∧ wt st ≤ 8 ∧ k + 1 ≤ 14 ∧ n + 15 ≤ 187 ∧ WP (MJx4a65c_add_7a177 g) (kx (fun v w' => WP (MX3_turn g) Q (46, [l0, l1, l2, l3], v.toList ++ st, w', k + 1, n + 15)) (fun E w' => Q (.inr E) w')) (0, [some (.ref p), some (.int z0), some .null, none, none], [], w, 0, 0)) := csV0 (M := (MX3_turn g)) (mc := (fun _ _ => 1)) (ms := (fun _ _ => 15)) (As := [.int z0, .null]) (rest := st) (MJx4a65c_add_7a177 g) rfl rfl rfl (dt_q dX3_turn_0_D 21 rfl) rfl rfl rfl rfl rfl rfl
theorem eX3_turn_46 : WP (MX3_turn g) Q (46, [l0, l1, l2, l3], st, w, k, n) = WP (MX3_turn g) Q (21, [l0, l1, l2, l3], st, w, k, n) := goto_e rfl (dt_q dX3_turn_0_D 22 rfl) (by decide)
theorem eX3_turn_49 : WP (MX3_turn g) Q (49, [some (.ref p), l1, l2, l3], st, w, k, n) = WP (MX3_turn g) Q (50, [some (.ref p), l1, l2, l3], .ref p :: st, w, k, n) := alnR_e rfl (dt_q dX3_turn_0_D 23 rfl) rfl
theorem eX3_turn_49N : WP (MX3_turn g) Q (49, [some .null, l1, l2, l3], st, w, k, n) = WP (MX3_turn g) Q (50, [some .null, l1, l2, l3], .null :: st, w, k, n) := alnN_e rfl (dt_q dX3_turn_0_D 23 rfl) rfl
theorem eX3_turn_50 : WP (MX3_turn g) Q (50, [l0, some (.ref p), l2, l3], st, w, k, n) = WP (MX3_turn g) Q (51, [l0, some (.ref p), l2, l3], .ref p :: st, w, k, n) := alnR_e rfl (dt_q dX3_turn_0_D 24 rfl) rfl
theorem eX3_turn_50N : WP (MX3_turn g) Q (50, [l0, some .null, l2, l3], st, w, k, n) = WP (MX3_turn g) Q (51, [l0, some .null, l2, l3], .null :: st, w, k, n) := alnN_e rfl (dt_q dX3_turn_0_D 24 rfl) rfl
theorem eX3_turn_51 : WP (MX3_turn g) Q (51, [l0, l1, l2, l3], v :: .ref p :: st, w, k, n) = go (w p) 7 fun fs => 3 < fs.length ∧ (narrow (tyX3 3) v = v ∧ fits (tyX3 3) v = true) ∧ WP (MX3_turn g) Q (54, [l0, l1, l2, l3], st, upw w p (.inr (7, fs.set 3 v)), k, n) := put_e (q := (RX3, TX3, 7)) rfl (dt_q dX3_turn_0_D 25 rfl) rfl rfl (tyX3_ok 3 (by decide)) (Or.inl rfl)
theorem eX3_turn_54 : WP (MX3_turn g) Q (54, [some (.ref p), l1, l2, l3], st, w, k, n) = WP (MX3_turn g) Q (55, [some (.ref p), l1, l2, l3], .ref p :: st, w, k, n) := alnR_e rfl (dt_q dX3_turn_0_D 26 rfl) rfl
theorem eX3_turn_54N : WP (MX3_turn g) Q (54, [some .null, l1, l2, l3], st, w, k, n) = WP (MX3_turn g) Q (55, [some .null, l1, l2, l3], .null :: st, w, k, n) := alnN_e rfl (dt_q dX3_turn_0_D 26 rfl) rfl
theorem eX3_turn_55 : WP (MX3_turn g) Q (55, [l0, l1, l2, l3], .ref p :: st, w, k, n) = go (rd g w p) 7 fun fs => ∃ v, fs[3]? = some v ∧ WP (MX3_turn g) Q (58, [l0, l1, l2, l3], v :: st, w, k, n) := get_e rfl (dt_q dX3_turn_0_D 27 rfl) rfl
theorem eX3_turn_58  : WP (MX3_turn g) Q (58, [l0, l1, l2, l3], .ref p :: st, w, k, n) = (go (rd g w p) 3 (fun _ => True) ∧ wt st ≤ 8 ∧ k + 0 ≤ 14 ∧ n + 0 ≤ 187 ∧ WP (MJx4a65c_size_8abf5 g) (kx (fun v w' => WP (MX3_turn g) Q (61, [l0, l1, l2, l3], v.toList ++ st, w', k + 0, n + 0)) (fun E w' => Q (.inr E) w')) (0, [some (.ref p)], [], w, 0, 0)) := csV0 (M := (MX3_turn g)) (mc := (fun _ _ => 0)) (ms := (fun _ _ => 0)) (As := []) (rest := st) (MJx4a65c_size_8abf5 g) rfl rfl rfl (dt_q dX3_turn_0_D 28 rfl) rfl rfl rfl rfl rfl rfl
set_option maxRecDepth 20000 in
theorem eX3_turn_61 : WP (MX3_turn g) Q (61, [l0, l1, l2, l3], [.int a], w, k, n) = (k ≤ 14 ∧ n ≤ 187 ∧ Q (.inl (some (.int a))) w) := iretI_e rfl (dt_q dX3_turn_0_D 29 rfl) rfl
end
theorem wk_1610 : (.code yJx4a65c_add_7a177 cJx4a65c_add_7a177 5 (none) : Jvm.Cond) ∈ WS := WS_t7 112 rfl rfl
theorem wk_1607 : (.methodLink RX3 201 yJx4a65c_add_7a177 : Jvm.Cond) ∈ WS := WS_t7 109 rfl rfl
theorem wk_1608 : (.instanceMethod yJx4a65c_add_7a177 : Jvm.Cond) ∈ WS := WS_t7 110 rfl rfl
theorem wk_1609 : (.selects RJx4a65c yJx4a65c_add_7a177 yJx4a65c_add_7a177 : Jvm.Cond) ∈ WS := WS_t7 111 rfl rfl
theorem kc_73 {l : Launch} (hl : l.stackTraces = false) {G : GT} {own : String} {i : Nat} (hw : Jvm.Cond.methodLink own i yJx4a65c_add_7a177 ∈ WS) : vCal l G own i (2, 3, 3, 5, (fun _ _ => 1), (fun _ _ => 15), yJx4a65c_add_7a177, spOf (MJx4a65c_add_7a177 (gg G))) := ⟨cJx4a65c_add_7a177, 5, none, fun y hy => by subst hy; exact ⟨by decide, ⟨_, wk_1610, okJx4a65c_add_7a177 hl, Or.inl ⟨Nat.ne_of_beq_eq_false rfl, rfl⟩⟩, wk_63, nc6, ⟨(by decide +kernel : (parseMethodDescriptor yJx4a65c_add_7a177.desc).map (fun d => d.parameters.length + 1) = some 3), hw, wk_1608, wk_1609, (RJx4a65c, TJx4a65c, 3), rfl, rfl⟩⟩⟩
theorem vMX3_turn {l : Launch} (hl : l.stackTraces = false) (G : GT) : vM l G (MX3_turn (gg G)) := vM_k RX3 cX3_turn rfl rfl (all_c (vF_RX3_27) (all_c (vF_RX3_20) (all_n))) (all_c (vN_RX3_13) (all_n)) all_n all_n all_n (fun h => absurd rfl h) (all_c (kc_33 hl wk_1122) (all_c (kc_70 hl wk_1540) (all_c (⟨cJx35411_hasNext_aae02, 1, some .boolean, fun y hy => by subst hy; exact ⟨by decide, ⟨_, wk_1572, okJx35411_hasNext_aae02 hl, Or.inl ⟨Nat.ne_of_beq_eq_false rfl, rfl⟩⟩, wk_87, nc8, ⟨(⟨"java/util/Iterator", "hasNext", "()Z"⟩ : MethodName), (by decide +kernel : (parseMethodDescriptor (⟨"java/util/Iterator", "hasNext", "()Z"⟩ : MethodName).desc).map (fun d => d.parameters.length + 1) = some 1), wk_1564, wk_1570, (RJx35411, TJx35411, 4), rfl, wk_1568, (by decide : (RJx35411, (⟨"java/util/Iterator", "hasNext", "()Z"⟩ : MethodName), yJx35411_hasNext_aae02) ∈ IFL)⟩⟩⟩) (all_c (⟨cJx35411_next_0502b, 3, some (.object "java/lang/Object"), fun y hy => by subst hy; exact ⟨by decide, ⟨_, wk_1581, okJx35411_next_0502b hl, Or.inl ⟨Nat.ne_of_beq_eq_false rfl, rfl⟩⟩, wk_87, nc8, ⟨(⟨"java/util/Iterator", "next", "()Ljava/lang/Object;"⟩ : MethodName), (by decide +kernel : (parseMethodDescriptor (⟨"java/util/Iterator", "next", "()Ljava/lang/Object;"⟩ : MethodName).desc).map (fun d => d.parameters.length + 1) = some 1), wk_1574, wk_1579, (RJx35411, TJx35411, 4), rfl, wk_1577, (by decide : (RJx35411, (⟨"java/util/Iterator", "next", "()Ljava/lang/Object;"⟩ : MethodName), yJx35411_next_0502b) ∈ IFL)⟩⟩⟩) (all_c (kc_73 hl wk_1607) (all_c (kc_68 hl wk_1520) (all_n))))))) all_n (all_c (⟨.long, rfl, (fun C h => by cases h), wk_1380⟩) (all_n)) (fun h => absurd rfl h) rfl all_n
theorem okX3_turn {l : Launch} (hl : l.stackTraces = false) {G : GT} : ∀ (args : List Value) (w : Hw) (S : Ot → Hw → Prop), spOf (MX3_turn (gg G)) args w S → CX l G yX3_turn (.code yX3_turn cX3_turn 4 (some .int)) 6 14 187 args w S := CX_sp (M := MX3_turn (gg G)) (y := yX3_turn) hl (by decide) rfl (vMX3_turn hl G) (fun h => by cases h) rfl
abbrev dX3_sweep_0_T : List (Nat × Instr × Nat) := [(0, .aload_n 0, 1), (1, .iconst 0, 1), (2, .putfield 27, 3), (5, .aload_n 0, 1), (6, .getfield 20, 3), (9, .invokevirtual 174, 3), (12, .istore_n 1, 1), (13, .aload_n 0, 1), (14, .new 13, 3), (17, .dup, 1), (18, .invokespecial 15, 3), (21, .putfield 20, 3), (24, .iload_n 1, 1), (25, .ireturn, 1)]
theorem dX3_sweep_0_D : dtc cX3_sweep dX3_sweep_0_T = true := by decide +kernel
def MX3_sweep (g : RO) : MT := ((RX3, cX3_sweep, 2, 4, 1, 3, false, some .int), [(27, 7, 0), (20, 7, 3)], [(13, 3, [.int 0, .null, .int 0])], [], [], [], 0, [(174, 2, 1, 3, 1, (fun _ _ => 0), (fun _ _ => 0), yJx4a65c_size_8abf5, spOf (MJx4a65c_size_8abf5 g)), (15, 4, 1, 3, 3, (fun _ _ => 0), (fun _ _ => 0), yJx4a65c_init_da8c8, spOf (MJx4a65c_init_da8c8 g))], [], [], 0, [], [], g)
section
variable {g : RO} {Q : Ot → Hw → Prop} {st : List Value} {w : Hw} {k n p q : Nat} {a b : Int32} {x y : Int64} {u v : Value} {l0 l1 : Option Value}
theorem eX3_sweep_0 : WP (MX3_sweep g) Q (0, [some (.ref p), l1], st, w, k, n) = WP (MX3_sweep g) Q (1, [some (.ref p), l1], .ref p :: st, w, k, n) := alnR_e rfl (dt_q dX3_sweep_0_D 0 rfl) rfl
theorem eX3_sweep_0N : WP (MX3_sweep g) Q (0, [some .null, l1], st, w, k, n) = WP (MX3_sweep g) Q (1, [some .null, l1], .null :: st, w, k, n) := alnN_e rfl (dt_q dX3_sweep_0_D 0 rfl) rfl
theorem eX3_sweep_1 : WP (MX3_sweep g) Q (1, [l0, l1], st, w, k, n) = WP (MX3_sweep g) Q (2, [l0, l1], .int 0 :: st, w, k, n) := ic_0 rfl (dt_q dX3_sweep_0_D 1 rfl)
theorem eX3_sweep_2 : WP (MX3_sweep g) Q (2, [l0, l1], v :: .ref p :: st, w, k, n) = go (w p) 7 fun fs => 0 < fs.length ∧ (narrow (.int) v = v ∧ fits (.int) v = true) ∧ WP (MX3_sweep g) Q (5, [l0, l1], st, upw w p (.inr (7, fs.set 0 v)), k, n) := put_e (q := (RX3, TX3, 7)) rfl (dt_q dX3_sweep_0_D 2 rfl) rfl rfl (tyX3_ok 0 (by decide)) (Or.inl rfl)
theorem eX3_sweep_5 : WP (MX3_sweep g) Q (5, [some (.ref p), l1], st, w, k, n) = WP (MX3_sweep g) Q (6, [some (.ref p), l1], .ref p :: st, w, k, n) := alnR_e rfl (dt_q dX3_sweep_0_D 3 rfl) rfl
theorem eX3_sweep_5N : WP (MX3_sweep g) Q (5, [some .null, l1], st, w, k, n) = WP (MX3_sweep g) Q (6, [some .null, l1], .null :: st, w, k, n) := alnN_e rfl (dt_q dX3_sweep_0_D 3 rfl) rfl
theorem eX3_sweep_6 : WP (MX3_sweep g) Q (6, [l0, l1], .ref p :: st, w, k, n) = go (rd g w p) 7 fun fs => ∃ v, fs[3]? = some v ∧ WP (MX3_sweep g) Q (9, [l0, l1], v :: st, w, k, n) := get_e rfl (dt_q dX3_sweep_0_D 4 rfl) rfl
theorem eX3_sweep_9  : WP (MX3_sweep g) Q (9, [l0, l1], .ref p :: st, w, k, n) = (go (rd g w p) 3 (fun _ => True) ∧ wt st ≤ 8 ∧ k + 0 ≤ 1 ∧ n + 0 ≤ 3 ∧ WP (MJx4a65c_size_8abf5 g) (kx (fun v w' => WP (MX3_sweep g) Q (12, [l0, l1], v.toList ++ st, w', k + 0, n + 0)) (fun E w' => Q (.inr E) w')) (0, [some (.ref p)], [], w, 0, 0)) := csV0 (M := (MX3_sweep g)) (mc := (fun _ _ => 0)) (ms := (fun _ _ => 0)) (As := []) (rest := st) (MJx4a65c_size_8abf5 g) rfl rfl rfl (dt_q dX3_sweep_0_D 5 rfl) rfl rfl rfl rfl rfl rfl
theorem eX3_sweep_12 : WP (MX3_sweep g) Q (12, [l0, l1], .int a :: st, w, k, n) = WP (MX3_sweep g) Q (13, [nl l0, some (.int a)], st, w, k, n) := isn_e rfl (dt_q dX3_sweep_0_D 6 rfl) rfl rfl
theorem eX3_sweep_13 : WP (MX3_sweep g) Q (13, [some (.ref p), l1], st, w, k, n) = WP (MX3_sweep g) Q (14, [some (.ref p), l1], .ref p :: st, w, k, n) := alnR_e rfl (dt_q dX3_sweep_0_D 7 rfl) rfl
theorem eX3_sweep_13N : WP (MX3_sweep g) Q (13, [some .null, l1], st, w, k, n) = WP (MX3_sweep g) Q (14, [some .null, l1], .null :: st, w, k, n) := alnN_e rfl (dt_q dX3_sweep_0_D 7 rfl) rfl
theorem eX3_sweep_14 : WP (MX3_sweep g) Q (14, [l0, l1], st, w, k, n) = (k + 1 ≤ 1 ∧ n + 3 ≤ 3 ∧ ∀ q : Nat, rd g w q = none → WP (MX3_sweep g) Q (17, [l0, l1], .ref q :: st, upw w q (.inr (3, [.int 0, .null, .int 0])), k + 1, n + 3)) := Eq.trans (new_e (M := (MX3_sweep g)) (fs := [.int 0, .null, .int 0]) rfl (dt_q dX3_sweep_0_D 8 rfl) rfl) rfl
theorem eX3_sweep_17 : WP (MX3_sweep g) Q (17, [l0, l1], .int a :: st, w, k, n) = WP (MX3_sweep g) Q (18, [l0, l1], .int a :: .int a :: st, w, k, n) := dupI_e rfl (dt_q dX3_sweep_0_D 9 rfl)
theorem eX3_sweep_17R : WP (MX3_sweep g) Q (17, [l0, l1], .ref p :: st, w, k, n) = WP (MX3_sweep g) Q (18, [l0, l1], .ref p :: .ref p :: st, w, k, n) := dupR_e rfl (dt_q dX3_sweep_0_D 9 rfl)
theorem eX3_sweep_18  : WP (MX3_sweep g) Q (18, [l0, l1], .ref p :: st, w, k, n) = (wt st ≤ 8 ∧ k + 0 ≤ 1 ∧ n + 0 ≤ 3 ∧ WP (MJx4a65c_init_da8c8 g) (kx (fun v w' => WP (MX3_sweep g) Q (21, [l0, l1], v.toList ++ st, w', k + 0, n + 0)) (fun E w' => Q (.inr E) w')) (0, [some (.ref p)], [], w, 0, 0)) := csI (M := (MX3_sweep g)) (mc := (fun _ _ => 0)) (ms := (fun _ _ => 0)) (As := []) (rest := st) (MJx4a65c_init_da8c8 g) rfl rfl (dt_q dX3_sweep_0_D 10 rfl) (Nat.ne_of_beq_eq_false rfl) rfl rfl (Nat.le_of_ble_eq_true rfl) (Nat.le_of_ble_eq_true rfl) rfl
theorem eX3_sweep_21 : WP (MX3_sweep g) Q (21, [l0, l1], v :: .ref p :: st, w, k, n) = go (w p) 7 fun fs => 3 < fs.length ∧ (narrow (tyX3 3) v = v ∧ fits (tyX3 3) v = true) ∧ WP (MX3_sweep g) Q (24, [l0, l1], st, upw w p (.inr (7, fs.set 3 v)), k, n) := put_e (q := (RX3, TX3, 7)) rfl (dt_q dX3_sweep_0_D 11 rfl) rfl rfl (tyX3_ok 3 (by decide)) (Or.inl rfl)
theorem eX3_sweep_24 : WP (MX3_sweep g) Q (24, [l0, some (.int a)], st, w, k, n) = WP (MX3_sweep g) Q (25, [l0, some (.int a)], .int a :: st, w, k, n) := iln_e rfl (dt_q dX3_sweep_0_D 12 rfl) rfl
theorem eX3_sweep_25 : WP (MX3_sweep g) Q (25, [l0, l1], [.int a], w, k, n) = (k ≤ 1 ∧ n ≤ 3 ∧ Q (.inl (some (.int a))) w) := iretI_e rfl (dt_q dX3_sweep_0_D 13 rfl) rfl
end
theorem vMX3_sweep {l : Launch} (hl : l.stackTraces = false) (G : GT) : vM l G (MX3_sweep (gg G)) := vM_k RX3 cX3_sweep rfl rfl (all_c (vF_RX3_27) (all_c (vF_RX3_20) (all_n))) (all_c (vN_RX3_13) (all_n)) all_n all_n all_n (fun h => absurd rfl h) (all_c (kc_68 hl wk_1520) (all_c (kc_33 hl wk_1122) (all_n))) all_n all_n (fun h => absurd rfl h) rfl all_n
theorem okX3_sweep {l : Launch} (hl : l.stackTraces = false) {G : GT} : ∀ (args : List Value) (w : Hw) (S : Ot → Hw → Prop), spOf (MX3_sweep (gg G)) args w S → CX l G yX3_sweep (.code yX3_sweep cX3_sweep 2 (some .int)) 4 1 3 args w S := CX_sp (M := MX3_sweep (gg G)) (y := yX3_sweep) hl (by decide) rfl (vMX3_sweep hl G) (fun h => by cases h) rfl
abbrev dX3_isAhead_0_T : List (Nat × Instr × Nat) := [(0, .iconst 0, 1), (1, .istore_n 2, 1), (2, .iconst 0, 1), (3, .istore_n 3, 1), (4, .iload_n 3, 1), (5, .iload_n 1, 1), (6, .if_icmp .ge 37, 3), (9, .iload_n 2, 1), (10, .aload_n 0, 1), (11, .getfield 20, 3), (14, .iload_n 3, 1), (15, .invokevirtual 42, 3), (18, .checkcast 125, 3), (21, .aload_n 0, 1), (22, .getfield 20, 3), (25, .iload_n 1, 1), (26, .invokevirtual 42, 3), (29, .checkcast 125, 3), (32, .invokestatic 126, 3), (35, .ior, 1), (36, .istore_n 2, 1), (37, .iinc 3 1, 3), (40, .goto (-36), 3), (43, .iload_n 2, 1), (44, .ireturn, 1)]
theorem dX3_isAhead_0_D : dtc cX3_isAhead dX3_isAhead_0_T = true := by decide +kernel
def MX3_isAhead (g : RO) : MT := ((RX3, cX3_isAhead, 4, 4, 0, 0, false, some .boolean), [(20, 7, 3)], [], [], [], [], 0, [(42, 2, 2, 3, 3, (fun _ _ => 0), (fun _ _ => 0), yJx4a65c_get_915e3, spOf (MJx4a65c_get_915e3 g)), (126, 0, 2, 0, 1, (fun _ _ => 0), (fun _ _ => 0), yX3_same, spOf (MX3_same g))], [], [(125, 0)], 0, [], [], g)
section
variable {g : RO} {Q : Ot → Hw → Prop} {st : List Value} {w : Hw} {k n p q : Nat} {a b : Int32} {x y : Int64} {u v : Value} {l0 l1 l2 l3 : Option Value}
theorem eX3_isAhead_0 : WP (MX3_isAhead g) Q (0, [l0, l1, l2, l3], st, w, k, n) = WP (MX3_isAhead g) Q (1, [l0, l1, l2, l3], .int 0 :: st, w, k, n) := ic_0 rfl (dt_q dX3_isAhead_0_D 0 rfl)
theorem eX3_isAhead_1 : WP (MX3_isAhead g) Q (1, [l0, l1, l2, l3], .int a :: st, w, k, n) = WP (MX3_isAhead g) Q (2, [l0, nl l1, some (.int a), l3], st, w, k, n) := isn_e rfl (dt_q dX3_isAhead_0_D 1 rfl) rfl rfl
theorem eX3_isAhead_2 : WP (MX3_isAhead g) Q (2, [l0, l1, l2, l3], st, w, k, n) = WP (MX3_isAhead g) Q (3, [l0, l1, l2, l3], .int 0 :: st, w, k, n) := ic_0 rfl (dt_q dX3_isAhead_0_D 2 rfl)
theorem eX3_isAhead_3 : WP (MX3_isAhead g) Q (3, [l0, l1, l2, l3], .int a :: st, w, k, n) = WP (MX3_isAhead g) Q (4, [l0, l1, nl l2, some (.int a)], st, w, k, n) := isn_e rfl (dt_q dX3_isAhead_0_D 3 rfl) rfl rfl
theorem eX3_isAhead_4 : WP (MX3_isAhead g) Q (4, [l0, l1, l2, some (.int a)], st, w, k, n) = WP (MX3_isAhead g) Q (5, [l0, l1, l2, some (.int a)], .int a :: st, w, k, n) := iln_e rfl (dt_q dX3_isAhead_0_D 4 rfl) rfl
theorem eX3_isAhead_5 : WP (MX3_isAhead g) Q (5, [l0, some (.int a), l2, l3], st, w, k, n) = WP (MX3_isAhead g) Q (6, [l0, some (.int a), l2, l3], .int a :: st, w, k, n) := iln_e rfl (dt_q dX3_isAhead_0_D 5 rfl) rfl
theorem eX3_isAhead_6 : WP (MX3_isAhead g) Q (6, [l0, l1, l2, l3], .int b :: .int a :: st, w, k, n) = if b ≤ a then WP (MX3_isAhead g) Q (43, [l0, l1, l2, l3], st, w, k, n) else WP (MX3_isAhead g) Q (9, [l0, l1, l2, l3], st, w, k, n) := icm_e (b ≤ a) rfl (dt_q dX3_isAhead_0_D 6 rfl) rfl (by decide)
theorem eX3_isAhead_9 : WP (MX3_isAhead g) Q (9, [l0, l1, some (.int a), l3], st, w, k, n) = WP (MX3_isAhead g) Q (10, [l0, l1, some (.int a), l3], .int a :: st, w, k, n) := iln_e rfl (dt_q dX3_isAhead_0_D 7 rfl) rfl
theorem eX3_isAhead_10 : WP (MX3_isAhead g) Q (10, [some (.ref p), l1, l2, l3], st, w, k, n) = WP (MX3_isAhead g) Q (11, [some (.ref p), l1, l2, l3], .ref p :: st, w, k, n) := alnR_e rfl (dt_q dX3_isAhead_0_D 8 rfl) rfl
theorem eX3_isAhead_10N : WP (MX3_isAhead g) Q (10, [some .null, l1, l2, l3], st, w, k, n) = WP (MX3_isAhead g) Q (11, [some .null, l1, l2, l3], .null :: st, w, k, n) := alnN_e rfl (dt_q dX3_isAhead_0_D 8 rfl) rfl
theorem eX3_isAhead_11 : WP (MX3_isAhead g) Q (11, [l0, l1, l2, l3], .ref p :: st, w, k, n) = go (rd g w p) 7 fun fs => ∃ v, fs[3]? = some v ∧ WP (MX3_isAhead g) Q (14, [l0, l1, l2, l3], v :: st, w, k, n) := get_e rfl (dt_q dX3_isAhead_0_D 9 rfl) rfl
theorem eX3_isAhead_14 : WP (MX3_isAhead g) Q (14, [l0, l1, l2, some (.int a)], st, w, k, n) = WP (MX3_isAhead g) Q (15, [l0, l1, l2, some (.int a)], .int a :: st, w, k, n) := iln_e rfl (dt_q dX3_isAhead_0_D 10 rfl) rfl
theorem eX3_isAhead_15 {z0 : Int32} : WP (MX3_isAhead g) Q (15, [l0, l1, l2, l3], .int z0 :: .ref p :: st, w, k, n) = (go (rd g w p) 3 (fun _ => True) ∧ wt st ≤ 8 ∧ k + 0 ≤ 0 ∧ n + 0 ≤ 0 ∧ WP (MJx4a65c_get_915e3 g) (kx (fun v w' => WP (MX3_isAhead g) Q (18, [l0, l1, l2, l3], v.toList ++ st, w', k + 0, n + 0)) (fun E w' => Q (.inr E) w')) (0, [some (.ref p), some (.int z0)], [], w, 0, 0)) := csV0 (M := (MX3_isAhead g)) (mc := (fun _ _ => 0)) (ms := (fun _ _ => 0)) (As := [.int z0]) (rest := st) (MJx4a65c_get_915e3 g) rfl rfl rfl (dt_q dX3_isAhead_0_D 11 rfl) rfl rfl rfl rfl rfl rfl
theorem eX3_isAhead_18N : WP (MX3_isAhead g) Q (18, [l0, l1, l2, l3], .null :: st, w, k, n) = WP (MX3_isAhead g) Q (21, [l0, l1, l2, l3], .null :: st, w, k, n) := castN_e rfl (dt_q dX3_isAhead_0_D 12 rfl)
theorem eX3_isAhead_18R : WP (MX3_isAhead g) Q (18, [l0, l1, l2, l3], .ref p :: st, w, k, n) = ((∃ x, w p = some (.inl (0, x))) ∧ WP (MX3_isAhead g) Q (21, [l0, l1, l2, l3], .ref p :: st, w, k, n)) := castR_e rfl (dt_q dX3_isAhead_0_D 12 rfl) rfl
theorem eX3_isAhead_21 : WP (MX3_isAhead g) Q (21, [some (.ref p), l1, l2, l3], st, w, k, n) = WP (MX3_isAhead g) Q (22, [some (.ref p), l1, l2, l3], .ref p :: st, w, k, n) := alnR_e rfl (dt_q dX3_isAhead_0_D 13 rfl) rfl
theorem eX3_isAhead_21N : WP (MX3_isAhead g) Q (21, [some .null, l1, l2, l3], st, w, k, n) = WP (MX3_isAhead g) Q (22, [some .null, l1, l2, l3], .null :: st, w, k, n) := alnN_e rfl (dt_q dX3_isAhead_0_D 13 rfl) rfl
theorem eX3_isAhead_22 : WP (MX3_isAhead g) Q (22, [l0, l1, l2, l3], .ref p :: st, w, k, n) = go (rd g w p) 7 fun fs => ∃ v, fs[3]? = some v ∧ WP (MX3_isAhead g) Q (25, [l0, l1, l2, l3], v :: st, w, k, n) := get_e rfl (dt_q dX3_isAhead_0_D 14 rfl) rfl
theorem eX3_isAhead_25 : WP (MX3_isAhead g) Q (25, [l0, some (.int a), l2, l3], st, w, k, n) = WP (MX3_isAhead g) Q (26, [l0, some (.int a), l2, l3], .int a :: st, w, k, n) := iln_e rfl (dt_q dX3_isAhead_0_D 15 rfl) rfl
theorem eX3_isAhead_26 {z0 : Int32} : WP (MX3_isAhead g) Q (26, [l0, l1, l2, l3], .int z0 :: .ref p :: st, w, k, n) = (go (rd g w p) 3 (fun _ => True) ∧ wt st ≤ 8 ∧ k + 0 ≤ 0 ∧ n + 0 ≤ 0 ∧ WP (MJx4a65c_get_915e3 g) (kx (fun v w' => WP (MX3_isAhead g) Q (29, [l0, l1, l2, l3], v.toList ++ st, w', k + 0, n + 0)) (fun E w' => Q (.inr E) w')) (0, [some (.ref p), some (.int z0)], [], w, 0, 0)) := csV0 (M := (MX3_isAhead g)) (mc := (fun _ _ => 0)) (ms := (fun _ _ => 0)) (As := [.int z0]) (rest := st) (MJx4a65c_get_915e3 g) rfl rfl rfl (dt_q dX3_isAhead_0_D 16 rfl) rfl rfl rfl rfl rfl rfl
theorem eX3_isAhead_29N : WP (MX3_isAhead g) Q (29, [l0, l1, l2, l3], .null :: st, w, k, n) = WP (MX3_isAhead g) Q (32, [l0, l1, l2, l3], .null :: st, w, k, n) := castN_e rfl (dt_q dX3_isAhead_0_D 17 rfl)
theorem eX3_isAhead_29R : WP (MX3_isAhead g) Q (29, [l0, l1, l2, l3], .ref p :: st, w, k, n) = ((∃ x, w p = some (.inl (0, x))) ∧ WP (MX3_isAhead g) Q (32, [l0, l1, l2, l3], .ref p :: st, w, k, n)) := castR_e rfl (dt_q dX3_isAhead_0_D 17 rfl) rfl
theorem eX3_isAhead_32RR {z0 : Nat} {z1 : Nat} : WP (MX3_isAhead g) Q (32, [l0, l1, l2, l3], .ref z1 :: .ref z0 :: st, w, k, n) = (wt st ≤ 8 ∧ k + 0 ≤ 0 ∧ n + 0 ≤ 0 ∧ WP (MX3_same g) (kx (fun v w' => WP (MX3_isAhead g) Q (35, [l0, l1, l2, l3], v.toList ++ st, w', k + 0, n + 0)) (fun E w' => Q (.inr E) w')) (0, [some (.ref z0), some (.ref z1), none, none], [], w, 0, 0)) := csS0 (M := (MX3_isAhead g)) (mc := (fun _ _ => 0)) (ms := (fun _ _ => 0)) (As := [.ref z0, .ref z1]) (rest := st) (MX3_same g) rfl rfl rfl (dt_q dX3_isAhead_0_D 18 rfl) rfl rfl rfl rfl rfl rfl rfl
theorem eX3_isAhead_32NR {z1 : Nat} : WP (MX3_isAhead g) Q (32, [l0, l1, l2, l3], .ref z1 :: .null :: st, w, k, n) = (wt st ≤ 8 ∧ k + 0 ≤ 0 ∧ n + 0 ≤ 0 ∧ WP (MX3_same g) (kx (fun v w' => WP (MX3_isAhead g) Q (35, [l0, l1, l2, l3], v.toList ++ st, w', k + 0, n + 0)) (fun E w' => Q (.inr E) w')) (0, [some .null, some (.ref z1), none, none], [], w, 0, 0)) := csS0 (M := (MX3_isAhead g)) (mc := (fun _ _ => 0)) (ms := (fun _ _ => 0)) (As := [.null, .ref z1]) (rest := st) (MX3_same g) rfl rfl rfl (dt_q dX3_isAhead_0_D 18 rfl) rfl rfl rfl rfl rfl rfl rfl
theorem eX3_isAhead_32RN {z0 : Nat} : WP (MX3_isAhead g) Q (32, [l0, l1, l2, l3], .null :: .ref z0 :: st, w, k, n) = (wt st ≤ 8 ∧ k + 0 ≤ 0 ∧ n + 0 ≤ 0 ∧ WP (MX3_same g) (kx (fun v w' => WP (MX3_isAhead g) Q (35, [l0, l1, l2, l3], v.toList ++ st, w', k + 0, n + 0)) (fun E w' => Q (.inr E) w')) (0, [some (.ref z0), some .null, none, none], [], w, 0, 0)) := csS0 (M := (MX3_isAhead g)) (mc := (fun _ _ => 0)) (ms := (fun _ _ => 0)) (As := [.ref z0, .null]) (rest := st) (MX3_same g) rfl rfl rfl (dt_q dX3_isAhead_0_D 18 rfl) rfl rfl rfl rfl rfl rfl rfl
theorem eX3_isAhead_32NN  : WP (MX3_isAhead g) Q (32, [l0, l1, l2, l3], .null :: .null :: st, w, k, n) = (wt st ≤ 8 ∧ k + 0 ≤ 0 ∧ n + 0 ≤ 0 ∧ WP (MX3_same g) (kx (fun v w' => WP (MX3_isAhead g) Q (35, [l0, l1, l2, l3], v.toList ++ st, w', k + 0, n + 0)) (fun E w' => Q (.inr E) w')) (0, [some .null, some .null, none, none], [], w, 0, 0)) := csS0 (M := (MX3_isAhead g)) (mc := (fun _ _ => 0)) (ms := (fun _ _ => 0)) (As := [.null, .null]) (rest := st) (MX3_same g) rfl rfl rfl (dt_q dX3_isAhead_0_D 18 rfl) rfl rfl rfl rfl rfl rfl rfl
theorem eX3_isAhead_35 : WP (MX3_isAhead g) Q (35, [l0, l1, l2, l3], .int b :: .int a :: st, w, k, n) = WP (MX3_isAhead g) Q (36, [l0, l1, l2, l3], .int (a ||| b) :: st, w, k, n) := ior_e rfl (dt_q dX3_isAhead_0_D 19 rfl)
theorem eX3_isAhead_36 : WP (MX3_isAhead g) Q (36, [l0, l1, l2, l3], .int a :: st, w, k, n) = WP (MX3_isAhead g) Q (37, [l0, nl l1, some (.int a), l3], st, w, k, n) := isn_e rfl (dt_q dX3_isAhead_0_D 20 rfl) rfl rfl
theorem eX3_isAhead_37 : WP (MX3_isAhead g) Q (37, [l0, l1, l2, some (.int a)], st, w, k, n) = WP (MX3_isAhead g) Q (40, [l0, l1, nl l2, some (.int (a + 1))], st, w, k, n) := Eq.trans (iinc_e (M := (MX3_isAhead g)) (L := [l0, l1, l2, some (.int a)]) (d := 1) rfl (dt_q dX3_isAhead_0_D 21 rfl) (by decide) rfl) rfl
theorem eX3_isAhead_40 : WP (MX3_isAhead g) Q (40, [l0, l1, l2, l3], st, w, k, n) = WP (MX3_isAhead g) Q (4, [l0, l1, l2, l3], st, w, k, n) := goto_e rfl (dt_q dX3_isAhead_0_D 22 rfl) (by decide)
theorem eX3_isAhead_43 : WP (MX3_isAhead g) Q (43, [l0, l1, some (.int a), l3], st, w, k, n) = WP (MX3_isAhead g) Q (44, [l0, l1, some (.int a), l3], .int a :: st, w, k, n) := iln_e rfl (dt_q dX3_isAhead_0_D 23 rfl) rfl
set_option maxRecDepth 20000 in
theorem eX3_isAhead_44 : WP (MX3_isAhead g) Q (44, [l0, l1, l2, l3], [.int a], w, k, n) = (narrow (.boolean) (.int a) = .int a ∧ k ≤ 0 ∧ n ≤ 0 ∧ Q (.inl (some (.int a))) w) := iret_e rfl (dt_q dX3_isAhead_0_D 24 rfl) rfl
end
theorem vMX3_isAhead {l : Launch} (hl : l.stackTraces = false) (G : GT) : vM l G (MX3_isAhead (gg G)) := vM_k RX3 cX3_isAhead rfl rfl (all_c (vF_RX3_20) (all_n)) all_n all_n all_n all_n (fun h => absurd rfl h) (all_c (kc_37 hl wk_1376) (all_c (kc_55 hl wk_1385) (all_n))) all_n (all_c (⟨.long, rfl, (fun C h => by cases h), wk_1380⟩) (all_n)) (fun h => absurd rfl h) rfl all_n
theorem okX3_isAhead {l : Launch} (hl : l.stackTraces = false) {G : GT} : ∀ (args : List Value) (w : Hw) (S : Ot → Hw → Prop), spOf (MX3_isAhead (gg G)) args w S → CX l G yX3_isAhead (.code yX3_isAhead cX3_isAhead 4 (some .boolean)) 4 0 0 args w S := CX_sp (M := MX3_isAhead (gg G)) (y := yX3_isAhead) hl (by decide) rfl (vMX3_isAhead hl G) (fun h => by cases h) rfl
abbrev dX3_pileNow_0_T : List (Nat × Instr × Nat) := [(0, .iconst 0, 1), (1, .istore_n 3, 1), (2, .iconst 0, 1), (3, .istore 4, 2), (5, .iload 4, 2), (7, .aload_n 0, 1), (8, .getfield 20, 3), (11, .invokevirtual 174, 3), (14, .if_icmp .ge 98, 3), (17, .aload_n 0, 1), (18, .getfield 20, 3), (21, .iload 4, 2), (23, .invokevirtual 42, 3), (26, .checkcast 125, 3), (29, .astore 5, 2), (31, .bipush 6, 2), (33, .newarray .boolean, 2), (35, .dup, 1), (36, .iconst 0, 1), (37, .iconst 1, 1), (38, .bastore, 1), (39, .dup, 1), (40, .iconst 1, 1), (41, .aload 5, 2), (43, .aload_n 0, 1), (44, .getfield 9, 3), (47, .iload_n 1, 1), (48, .laload, 1), (49, .iconst 0, 1), (50, .invokestatic 152, 3), (53, .bastore, 1), (54, .dup, 1), (55, .iconst 2, 1), (56, .aload 5, 2), (58, .aload_n 0, 1), (59, .getfield 9, 3), (62, .iload_n 1, 1), (63, .laload, 1), (64, .iconst 1, 1), (65, .invokestatic 152, 3)]
theorem dX3_pileNow_0_D : dtc cX3_pileNow dX3_pileNow_0_T = true := by decide +kernel
abbrev dX3_pileNow_68_T : List (Nat × Instr × Nat) := [(68, .bastore, 1), (69, .dup, 1), (70, .iconst 3, 1), (71, .aload 5, 2), (73, .invokestatic 130, 3), (76, .bastore, 1), (77, .dup, 1), (78, .iconst 4, 1), (79, .aload 5, 2), (81, .invokestatic 137, 3), (84, .bastore, 1), (85, .dup, 1), (86, .iconst 5, 1), (87, .aload_n 0, 1), (88, .iload 4, 2), (90, .invokevirtual 204, 3), (93, .bastore, 1), (94, .astore 6, 2), (96, .iload_n 3, 1), (97, .aload 6, 2), (99, .iload_n 2, 1), (100, .baload, 1), (101, .invokestatic 92, 3), (104, .iadd, 1), (105, .istore_n 3, 1), (106, .iinc 4 1, 3), (109, .goto (-104), 3), (112, .iload_n 3, 1), (113, .ireturn, 1)]
theorem dX3_pileNow_68_D : dtc cX3_pileNow dX3_pileNow_68_T = true := by decide +kernel
def MX3_pileNow (g : RO) : MT := ((RX3, cX3_pileNow, 7, 5, 12, 72, false, some .int), [(20, 7, 3), (9, 7, 1)], [], [], [], [], 0, [(174, 2, 1, 3, 1, (fun _ _ => 0), (fun _ _ => 0), yJx4a65c_size_8abf5, spOf (MJx4a65c_size_8abf5 g)), (42, 2, 2, 3, 3, (fun _ _ => 0), (fun _ _ => 0), yJx4a65c_get_915e3, spOf (MJx4a65c_get_915e3 g)), (152, 0, 3, 0, 2, (fun _ _ => 0), (fun _ _ => 0), yX3_valid, spOf (MX3_valid g)), (130, 0, 1, 0, 1, (fun _ _ => 0), (fun _ _ => 0), yX3_fixed, spOf (MX3_fixed g)), (137, 0, 1, 0, 1, (fun _ _ => 0), (fun _ _ => 0), yX3_small, spOf (MX3_small g)), (204, 2, 2, 7, 4, (fun _ _ => 0), (fun _ _ => 0), yX3_isAhead, spOf (MX3_isAhead g)), (92, 0, 1, 0, 1, (fun _ _ => 0), (fun _ _ => 0), yX3_one, spOf (MX3_one g))], [], [(125, 0)], 0, [], [], g)
section
variable {g : RO} {Q : Ot → Hw → Prop} {st : List Value} {w : Hw} {k n p q : Nat} {a b : Int32} {x y : Int64} {u v : Value} {l0 l1 l2 l3 l4 l5 l6 : Option Value}
theorem eX3_pileNow_0 : WP (MX3_pileNow g) Q (0, [l0, l1, l2, l3, l4, l5, l6], st, w, k, n) = WP (MX3_pileNow g) Q (1, [l0, l1, l2, l3, l4, l5, l6], .int 0 :: st, w, k, n) := ic_0 rfl (dt_q dX3_pileNow_0_D 0 rfl)
theorem eX3_pileNow_1 : WP (MX3_pileNow g) Q (1, [l0, l1, l2, l3, l4, l5, l6], .int a :: st, w, k, n) = WP (MX3_pileNow g) Q (2, [l0, l1, nl l2, some (.int a), l4, l5, l6], st, w, k, n) := isn_e rfl (dt_q dX3_pileNow_0_D 1 rfl) rfl rfl
theorem eX3_pileNow_2 : WP (MX3_pileNow g) Q (2, [l0, l1, l2, l3, l4, l5, l6], st, w, k, n) = WP (MX3_pileNow g) Q (3, [l0, l1, l2, l3, l4, l5, l6], .int 0 :: st, w, k, n) := ic_0 rfl (dt_q dX3_pileNow_0_D 2 rfl)
theorem eX3_pileNow_3 : WP (MX3_pileNow g) Q (3, [l0, l1, l2, l3, l4, l5, l6], .int a :: st, w, k, n) = WP (MX3_pileNow g) Q (5, [l0, l1, l2, nl l3, some (.int a), l5, l6], st, w, k, n) := is_e rfl (dt_q dX3_pileNow_0_D 3 rfl) rfl rfl
theorem eX3_pileNow_5 : WP (MX3_pileNow g) Q (5, [l0, l1, l2, l3, some (.int a), l5, l6], st, w, k, n) = WP (MX3_pileNow g) Q (7, [l0, l1, l2, l3, some (.int a), l5, l6], .int a :: st, w, k, n) := il_e rfl (dt_q dX3_pileNow_0_D 4 rfl) rfl
theorem eX3_pileNow_7 : WP (MX3_pileNow g) Q (7, [some (.ref p), l1, l2, l3, l4, l5, l6], st, w, k, n) = WP (MX3_pileNow g) Q (8, [some (.ref p), l1, l2, l3, l4, l5, l6], .ref p :: st, w, k, n) := alnR_e rfl (dt_q dX3_pileNow_0_D 5 rfl) rfl
theorem eX3_pileNow_7N : WP (MX3_pileNow g) Q (7, [some .null, l1, l2, l3, l4, l5, l6], st, w, k, n) = WP (MX3_pileNow g) Q (8, [some .null, l1, l2, l3, l4, l5, l6], .null :: st, w, k, n) := alnN_e rfl (dt_q dX3_pileNow_0_D 5 rfl) rfl
theorem eX3_pileNow_8 : WP (MX3_pileNow g) Q (8, [l0, l1, l2, l3, l4, l5, l6], .ref p :: st, w, k, n) = go (rd g w p) 7 fun fs => ∃ v, fs[3]? = some v ∧ WP (MX3_pileNow g) Q (11, [l0, l1, l2, l3, l4, l5, l6], v :: st, w, k, n) := get_e rfl (dt_q dX3_pileNow_0_D 6 rfl) rfl
theorem eX3_pileNow_11  : WP (MX3_pileNow g) Q (11, [l0, l1, l2, l3, l4, l5, l6], .ref p :: st, w, k, n) = (go (rd g w p) 3 (fun _ => True) ∧ wt st ≤ 8 ∧ k + 0 ≤ 12 ∧ n + 0 ≤ 72 ∧ WP (MJx4a65c_size_8abf5 g) (kx (fun v w' => WP (MX3_pileNow g) Q (14, [l0, l1, l2, l3, l4, l5, l6], v.toList ++ st, w', k + 0, n + 0)) (fun E w' => Q (.inr E) w')) (0, [some (.ref p)], [], w, 0, 0)) := csV0 (M := (MX3_pileNow g)) (mc := (fun _ _ => 0)) (ms := (fun _ _ => 0)) (As := []) (rest := st) (MJx4a65c_size_8abf5 g) rfl rfl rfl (dt_q dX3_pileNow_0_D 7 rfl) rfl rfl rfl rfl rfl rfl
theorem eX3_pileNow_14 : WP (MX3_pileNow g) Q (14, [l0, l1, l2, l3, l4, l5, l6], .int b :: .int a :: st, w, k, n) = if b ≤ a then WP (MX3_pileNow g) Q (112, [l0, l1, l2, l3, l4, l5, l6], st, w, k, n) else WP (MX3_pileNow g) Q (17, [l0, l1, l2, l3, l4, l5, l6], st, w, k, n) := icm_e (b ≤ a) rfl (dt_q dX3_pileNow_0_D 8 rfl) rfl (by decide)
theorem eX3_pileNow_17 : WP (MX3_pileNow g) Q (17, [some (.ref p), l1, l2, l3, l4, l5, l6], st, w, k, n) = WP (MX3_pileNow g) Q (18, [some (.ref p), l1, l2, l3, l4, l5, l6], .ref p :: st, w, k, n) := alnR_e rfl (dt_q dX3_pileNow_0_D 9 rfl) rfl
theorem eX3_pileNow_17N : WP (MX3_pileNow g) Q (17, [some .null, l1, l2, l3, l4, l5, l6], st, w, k, n) = WP (MX3_pileNow g) Q (18, [some .null, l1, l2, l3, l4, l5, l6], .null :: st, w, k, n) := alnN_e rfl (dt_q dX3_pileNow_0_D 9 rfl) rfl
theorem eX3_pileNow_18 : WP (MX3_pileNow g) Q (18, [l0, l1, l2, l3, l4, l5, l6], .ref p :: st, w, k, n) = go (rd g w p) 7 fun fs => ∃ v, fs[3]? = some v ∧ WP (MX3_pileNow g) Q (21, [l0, l1, l2, l3, l4, l5, l6], v :: st, w, k, n) := get_e rfl (dt_q dX3_pileNow_0_D 10 rfl) rfl
theorem eX3_pileNow_21 : WP (MX3_pileNow g) Q (21, [l0, l1, l2, l3, some (.int a), l5, l6], st, w, k, n) = WP (MX3_pileNow g) Q (23, [l0, l1, l2, l3, some (.int a), l5, l6], .int a :: st, w, k, n) := il_e rfl (dt_q dX3_pileNow_0_D 11 rfl) rfl
theorem eX3_pileNow_23 {z0 : Int32} : WP (MX3_pileNow g) Q (23, [l0, l1, l2, l3, l4, l5, l6], .int z0 :: .ref p :: st, w, k, n) = (go (rd g w p) 3 (fun _ => True) ∧ wt st ≤ 8 ∧ k + 0 ≤ 12 ∧ n + 0 ≤ 72 ∧ WP (MJx4a65c_get_915e3 g) (kx (fun v w' => WP (MX3_pileNow g) Q (26, [l0, l1, l2, l3, l4, l5, l6], v.toList ++ st, w', k + 0, n + 0)) (fun E w' => Q (.inr E) w')) (0, [some (.ref p), some (.int z0)], [], w, 0, 0)) := csV0 (M := (MX3_pileNow g)) (mc := (fun _ _ => 0)) (ms := (fun _ _ => 0)) (As := [.int z0]) (rest := st) (MJx4a65c_get_915e3 g) rfl rfl rfl (dt_q dX3_pileNow_0_D 12 rfl) rfl rfl rfl rfl rfl rfl
theorem eX3_pileNow_26N : WP (MX3_pileNow g) Q (26, [l0, l1, l2, l3, l4, l5, l6], .null :: st, w, k, n) = WP (MX3_pileNow g) Q (29, [l0, l1, l2, l3, l4, l5, l6], .null :: st, w, k, n) := castN_e rfl (dt_q dX3_pileNow_0_D 13 rfl)
theorem eX3_pileNow_26R : WP (MX3_pileNow g) Q (26, [l0, l1, l2, l3, l4, l5, l6], .ref p :: st, w, k, n) = ((∃ x, w p = some (.inl (0, x))) ∧ WP (MX3_pileNow g) Q (29, [l0, l1, l2, l3, l4, l5, l6], .ref p :: st, w, k, n)) := castR_e rfl (dt_q dX3_pileNow_0_D 13 rfl) rfl
theorem eX3_pileNow_29 : WP (MX3_pileNow g) Q (29, [l0, l1, l2, l3, l4, l5, l6], .ref p :: st, w, k, n) = WP (MX3_pileNow g) Q (31, [l0, l1, l2, l3, nl l4, some (.ref p), l6], st, w, k, n) := asR_e rfl (dt_q dX3_pileNow_0_D 14 rfl) rfl rfl
theorem eX3_pileNow_29N : WP (MX3_pileNow g) Q (29, [l0, l1, l2, l3, l4, l5, l6], .null :: st, w, k, n) = WP (MX3_pileNow g) Q (31, [l0, l1, l2, l3, nl l4, some (.null), l6], st, w, k, n) := asN_e rfl (dt_q dX3_pileNow_0_D 14 rfl) rfl rfl
theorem eX3_pileNow_31 : WP (MX3_pileNow g) Q (31, [l0, l1, l2, l3, l4, l5, l6], st, w, k, n) = WP (MX3_pileNow g) Q (33, [l0, l1, l2, l3, l4, l5, l6], .int 6 :: st, w, k, n) := bipush_e rfl (dt_q dX3_pileNow_0_D 15 rfl) (by decide)
theorem eX3_pileNow_33 : WP (MX3_pileNow g) Q (33, [l0, l1, l2, l3, l4, l5, l6], .int a :: st, w, k, n) = (¬ a < 0 ∧ a.toNatClampNeg ≤ 40000 ∧ k + 1 ≤ 12 ∧ n + a.toNatClampNeg ≤ 72 ∧ ∀ q : Nat, rd g w q = none → WP (MX3_pileNow g) Q (35, [l0, l1, l2, l3, l4, l5, l6], .ref q :: st, upw w q (.inl (3, a.toNatClampNeg, .inl fun _ => 0)), k + 1, n + a.toNatClampNeg)) := Eq.trans (WP_at (M := (MX3_pileNow g)) rfl (dt_q dX3_pileNow_0_D 16 rfl) (Or.inr rfl)) rfl
theorem eX3_pileNow_35 : WP (MX3_pileNow g) Q (35, [l0, l1, l2, l3, l4, l5, l6], .int a :: st, w, k, n) = WP (MX3_pileNow g) Q (36, [l0, l1, l2, l3, l4, l5, l6], .int a :: .int a :: st, w, k, n) := dupI_e rfl (dt_q dX3_pileNow_0_D 17 rfl)
theorem eX3_pileNow_35R : WP (MX3_pileNow g) Q (35, [l0, l1, l2, l3, l4, l5, l6], .ref p :: st, w, k, n) = WP (MX3_pileNow g) Q (36, [l0, l1, l2, l3, l4, l5, l6], .ref p :: .ref p :: st, w, k, n) := dupR_e rfl (dt_q dX3_pileNow_0_D 17 rfl)
theorem eX3_pileNow_36 : WP (MX3_pileNow g) Q (36, [l0, l1, l2, l3, l4, l5, l6], st, w, k, n) = WP (MX3_pileNow g) Q (37, [l0, l1, l2, l3, l4, l5, l6], .int 0 :: st, w, k, n) := ic_0 rfl (dt_q dX3_pileNow_0_D 18 rfl)
theorem eX3_pileNow_37 : WP (MX3_pileNow g) Q (37, [l0, l1, l2, l3, l4, l5, l6], st, w, k, n) = WP (MX3_pileNow g) Q (38, [l0, l1, l2, l3, l4, l5, l6], .int 1 :: st, w, k, n) := ic_1 rfl (dt_q dX3_pileNow_0_D 19 rfl)
theorem eX3_pileNow_38 : WP (MX3_pileNow g) Q (38, [l0, l1, l2, l3, l4, l5, l6], .int b :: .int a :: .ref p :: st, w, k, n) = gb (w p) fun t N f => vp_in a N ∧ WP (MX3_pileNow g) Q (39, [l0, l1, l2, l3, l4, l5, l6], st, upw w p (.inl (t, N, .inl (upd f a.toNatClampNeg (vp_nar (bty t) b)))), k, n) := Eq.trans (WP_at (M := (MX3_pileNow g)) rfl (dt_q dX3_pileNow_0_D 20 rfl) (Or.inr rfl)) rfl
theorem eX3_pileNow_39 : WP (MX3_pileNow g) Q (39, [l0, l1, l2, l3, l4, l5, l6], .int a :: st, w, k, n) = WP (MX3_pileNow g) Q (40, [l0, l1, l2, l3, l4, l5, l6], .int a :: .int a :: st, w, k, n) := dupI_e rfl (dt_q dX3_pileNow_0_D 21 rfl)
theorem eX3_pileNow_39R : WP (MX3_pileNow g) Q (39, [l0, l1, l2, l3, l4, l5, l6], .ref p :: st, w, k, n) = WP (MX3_pileNow g) Q (40, [l0, l1, l2, l3, l4, l5, l6], .ref p :: .ref p :: st, w, k, n) := dupR_e rfl (dt_q dX3_pileNow_0_D 21 rfl)
theorem eX3_pileNow_40 : WP (MX3_pileNow g) Q (40, [l0, l1, l2, l3, l4, l5, l6], st, w, k, n) = WP (MX3_pileNow g) Q (41, [l0, l1, l2, l3, l4, l5, l6], .int 1 :: st, w, k, n) := ic_1 rfl (dt_q dX3_pileNow_0_D 22 rfl)
theorem eX3_pileNow_41 : WP (MX3_pileNow g) Q (41, [l0, l1, l2, l3, l4, some (.ref p), l6], st, w, k, n) = WP (MX3_pileNow g) Q (43, [l0, l1, l2, l3, l4, some (.ref p), l6], .ref p :: st, w, k, n) := alR_e rfl (dt_q dX3_pileNow_0_D 23 rfl) rfl
theorem eX3_pileNow_41N : WP (MX3_pileNow g) Q (41, [l0, l1, l2, l3, l4, some .null, l6], st, w, k, n) = WP (MX3_pileNow g) Q (43, [l0, l1, l2, l3, l4, some .null, l6], .null :: st, w, k, n) := alN_e rfl (dt_q dX3_pileNow_0_D 23 rfl) rfl
theorem eX3_pileNow_43 : WP (MX3_pileNow g) Q (43, [some (.ref p), l1, l2, l3, l4, l5, l6], st, w, k, n) = WP (MX3_pileNow g) Q (44, [some (.ref p), l1, l2, l3, l4, l5, l6], .ref p :: st, w, k, n) := alnR_e rfl (dt_q dX3_pileNow_0_D 24 rfl) rfl
theorem eX3_pileNow_43N : WP (MX3_pileNow g) Q (43, [some .null, l1, l2, l3, l4, l5, l6], st, w, k, n) = WP (MX3_pileNow g) Q (44, [some .null, l1, l2, l3, l4, l5, l6], .null :: st, w, k, n) := alnN_e rfl (dt_q dX3_pileNow_0_D 24 rfl) rfl
theorem eX3_pileNow_44 : WP (MX3_pileNow g) Q (44, [l0, l1, l2, l3, l4, l5, l6], .ref p :: st, w, k, n) = go (rd g w p) 7 fun fs => ∃ v, fs[1]? = some v ∧ WP (MX3_pileNow g) Q (47, [l0, l1, l2, l3, l4, l5, l6], v :: st, w, k, n) := get_e rfl (dt_q dX3_pileNow_0_D 25 rfl) rfl
theorem eX3_pileNow_47 : WP (MX3_pileNow g) Q (47, [l0, some (.int a), l2, l3, l4, l5, l6], st, w, k, n) = WP (MX3_pileNow g) Q (48, [l0, some (.int a), l2, l3, l4, l5, l6], .int a :: st, w, k, n) := iln_e rfl (dt_q dX3_pileNow_0_D 26 rfl) rfl
theorem eX3_pileNow_48 : WP (MX3_pileNow g) Q (48, [l0, l1, l2, l3, l4, l5, l6], .int a :: .ref p :: st, w, k, n) = gl (rd g w p) 0 fun N f => vp_in a N ∧ WP (MX3_pileNow g) Q (49, [l0, l1, l2, l3, l4, l5, l6], .long (f a.toNatClampNeg) :: st, w, k, n) := laload_e rfl (dt_q dX3_pileNow_0_D 27 rfl)
theorem eX3_pileNow_49 : WP (MX3_pileNow g) Q (49, [l0, l1, l2, l3, l4, l5, l6], st, w, k, n) = WP (MX3_pileNow g) Q (50, [l0, l1, l2, l3, l4, l5, l6], .int 0 :: st, w, k, n) := ic_0 rfl (dt_q dX3_pileNow_0_D 28 rfl)
theorem eX3_pileNow_50R {z0 : Nat} {z1 : Int64} {z2 : Int32} : WP (MX3_pileNow g) Q (50, [l0, l1, l2, l3, l4, l5, l6], .int z2 :: .long z1 :: .ref z0 :: st, w, k, n) = (wt st ≤ 8 ∧ k + 0 ≤ 12 ∧ n + 0 ≤ 72 ∧ WP (MX3_valid g) (kx (fun v w' => WP (MX3_pileNow g) Q (53, [l0, l1, l2, l3, l4, l5, l6], v.toList ++ st, w', k + 0, n + 0)) (fun E w' => Q (.inr E) w')) (0, [some (.ref z0), some (.long z1), none, some (.int z2)], [], w, 0, 0)) := csS0 (M := (MX3_pileNow g)) (mc := (fun _ _ => 0)) (ms := (fun _ _ => 0)) (As := [.ref z0, .long z1, .int z2]) (rest := st) (MX3_valid g) rfl rfl rfl (dt_q dX3_pileNow_0_D 29 rfl) rfl rfl rfl rfl rfl rfl rfl
theorem eX3_pileNow_50N {z1 : Int64} {z2 : Int32} : WP (MX3_pileNow g) Q (50, [l0, l1, l2, l3, l4, l5, l6], .int z2 :: .long z1 :: .null :: st, w, k, n) = (wt st ≤ 8 ∧ k + 0 ≤ 12 ∧ n + 0 ≤ 72 ∧ WP (MX3_valid g) (kx (fun v w' => WP (MX3_pileNow g) Q (53, [l0, l1, l2, l3, l4, l5, l6], v.toList ++ st, w', k + 0, n + 0)) (fun E w' => Q (.inr E) w')) (0, [some .null, some (.long z1), none, some (.int z2)], [], w, 0, 0)) := csS0 (M := (MX3_pileNow g)) (mc := (fun _ _ => 0)) (ms := (fun _ _ => 0)) (As := [.null, .long z1, .int z2]) (rest := st) (MX3_valid g) rfl rfl rfl (dt_q dX3_pileNow_0_D 29 rfl) rfl rfl rfl rfl rfl rfl rfl
theorem eX3_pileNow_53 : WP (MX3_pileNow g) Q (53, [l0, l1, l2, l3, l4, l5, l6], .int b :: .int a :: .ref p :: st, w, k, n) = gb (w p) fun t N f => vp_in a N ∧ WP (MX3_pileNow g) Q (54, [l0, l1, l2, l3, l4, l5, l6], st, upw w p (.inl (t, N, .inl (upd f a.toNatClampNeg (vp_nar (bty t) b)))), k, n) := Eq.trans (WP_at (M := (MX3_pileNow g)) rfl (dt_q dX3_pileNow_0_D 30 rfl) (Or.inr rfl)) rfl
theorem eX3_pileNow_54 : WP (MX3_pileNow g) Q (54, [l0, l1, l2, l3, l4, l5, l6], .int a :: st, w, k, n) = WP (MX3_pileNow g) Q (55, [l0, l1, l2, l3, l4, l5, l6], .int a :: .int a :: st, w, k, n) := dupI_e rfl (dt_q dX3_pileNow_0_D 31 rfl)
theorem eX3_pileNow_54R : WP (MX3_pileNow g) Q (54, [l0, l1, l2, l3, l4, l5, l6], .ref p :: st, w, k, n) = WP (MX3_pileNow g) Q (55, [l0, l1, l2, l3, l4, l5, l6], .ref p :: .ref p :: st, w, k, n) := dupR_e rfl (dt_q dX3_pileNow_0_D 31 rfl)
theorem eX3_pileNow_55 : WP (MX3_pileNow g) Q (55, [l0, l1, l2, l3, l4, l5, l6], st, w, k, n) = WP (MX3_pileNow g) Q (56, [l0, l1, l2, l3, l4, l5, l6], .int 2 :: st, w, k, n) := ic_2 rfl (dt_q dX3_pileNow_0_D 32 rfl)
theorem eX3_pileNow_56 : WP (MX3_pileNow g) Q (56, [l0, l1, l2, l3, l4, some (.ref p), l6], st, w, k, n) = WP (MX3_pileNow g) Q (58, [l0, l1, l2, l3, l4, some (.ref p), l6], .ref p :: st, w, k, n) := alR_e rfl (dt_q dX3_pileNow_0_D 33 rfl) rfl
theorem eX3_pileNow_56N : WP (MX3_pileNow g) Q (56, [l0, l1, l2, l3, l4, some .null, l6], st, w, k, n) = WP (MX3_pileNow g) Q (58, [l0, l1, l2, l3, l4, some .null, l6], .null :: st, w, k, n) := alN_e rfl (dt_q dX3_pileNow_0_D 33 rfl) rfl
theorem eX3_pileNow_58 : WP (MX3_pileNow g) Q (58, [some (.ref p), l1, l2, l3, l4, l5, l6], st, w, k, n) = WP (MX3_pileNow g) Q (59, [some (.ref p), l1, l2, l3, l4, l5, l6], .ref p :: st, w, k, n) := alnR_e rfl (dt_q dX3_pileNow_0_D 34 rfl) rfl
theorem eX3_pileNow_58N : WP (MX3_pileNow g) Q (58, [some .null, l1, l2, l3, l4, l5, l6], st, w, k, n) = WP (MX3_pileNow g) Q (59, [some .null, l1, l2, l3, l4, l5, l6], .null :: st, w, k, n) := alnN_e rfl (dt_q dX3_pileNow_0_D 34 rfl) rfl
theorem eX3_pileNow_59 : WP (MX3_pileNow g) Q (59, [l0, l1, l2, l3, l4, l5, l6], .ref p :: st, w, k, n) = go (rd g w p) 7 fun fs => ∃ v, fs[1]? = some v ∧ WP (MX3_pileNow g) Q (62, [l0, l1, l2, l3, l4, l5, l6], v :: st, w, k, n) := get_e rfl (dt_q dX3_pileNow_0_D 35 rfl) rfl
theorem eX3_pileNow_62 : WP (MX3_pileNow g) Q (62, [l0, some (.int a), l2, l3, l4, l5, l6], st, w, k, n) = WP (MX3_pileNow g) Q (63, [l0, some (.int a), l2, l3, l4, l5, l6], .int a :: st, w, k, n) := iln_e rfl (dt_q dX3_pileNow_0_D 36 rfl) rfl
theorem eX3_pileNow_63 : WP (MX3_pileNow g) Q (63, [l0, l1, l2, l3, l4, l5, l6], .int a :: .ref p :: st, w, k, n) = gl (rd g w p) 0 fun N f => vp_in a N ∧ WP (MX3_pileNow g) Q (64, [l0, l1, l2, l3, l4, l5, l6], .long (f a.toNatClampNeg) :: st, w, k, n) := laload_e rfl (dt_q dX3_pileNow_0_D 37 rfl)
theorem eX3_pileNow_64 : WP (MX3_pileNow g) Q (64, [l0, l1, l2, l3, l4, l5, l6], st, w, k, n) = WP (MX3_pileNow g) Q (65, [l0, l1, l2, l3, l4, l5, l6], .int 1 :: st, w, k, n) := ic_1 rfl (dt_q dX3_pileNow_0_D 38 rfl)
theorem eX3_pileNow_65R {z0 : Nat} {z1 : Int64} {z2 : Int32} : WP (MX3_pileNow g) Q (65, [l0, l1, l2, l3, l4, l5, l6], .int z2 :: .long z1 :: .ref z0 :: st, w, k, n) = (wt st ≤ 8 ∧ k + 0 ≤ 12 ∧ n + 0 ≤ 72 ∧ WP (MX3_valid g) (kx (fun v w' => WP (MX3_pileNow g) Q (68, [l0, l1, l2, l3, l4, l5, l6], v.toList ++ st, w', k + 0, n + 0)) (fun E w' => Q (.inr E) w')) (0, [some (.ref z0), some (.long z1), none, some (.int z2)], [], w, 0, 0)) := csS0 (M := (MX3_pileNow g)) (mc := (fun _ _ => 0)) (ms := (fun _ _ => 0)) (As := [.ref z0, .long z1, .int z2]) (rest := st) (MX3_valid g) rfl rfl rfl (dt_q dX3_pileNow_0_D 39 rfl) rfl rfl rfl rfl rfl rfl rfl
theorem eX3_pileNow_65N {z1 : Int64} {z2 : Int32} : WP (MX3_pileNow g) Q (65, [l0, l1, l2, l3, l4, l5, l6], .int z2 :: .long z1 :: .null :: st, w, k, n) = (wt st ≤ 8 ∧ k + 0 ≤ 12 ∧ n + 0 ≤ 72 ∧ WP (MX3_valid g) (kx (fun v w' => WP (MX3_pileNow g) Q (68, [l0, l1, l2, l3, l4, l5, l6], v.toList ++ st, w', k + 0, n + 0)) (fun E w' => Q (.inr E) w')) (0, [some .null, some (.long z1), none, some (.int z2)], [], w, 0, 0)) := csS0 (M := (MX3_pileNow g)) (mc := (fun _ _ => 0)) (ms := (fun _ _ => 0)) (As := [.null, .long z1, .int z2]) (rest := st) (MX3_valid g) rfl rfl rfl (dt_q dX3_pileNow_0_D 39 rfl) rfl rfl rfl rfl rfl rfl rfl
theorem eX3_pileNow_68 : WP (MX3_pileNow g) Q (68, [l0, l1, l2, l3, l4, l5, l6], .int b :: .int a :: .ref p :: st, w, k, n) = gb (w p) fun t N f => vp_in a N ∧ WP (MX3_pileNow g) Q (69, [l0, l1, l2, l3, l4, l5, l6], st, upw w p (.inl (t, N, .inl (upd f a.toNatClampNeg (vp_nar (bty t) b)))), k, n) := Eq.trans (WP_at (M := (MX3_pileNow g)) rfl (dt_q dX3_pileNow_68_D 0 rfl) (Or.inr rfl)) rfl
theorem eX3_pileNow_69 : WP (MX3_pileNow g) Q (69, [l0, l1, l2, l3, l4, l5, l6], .int a :: st, w, k, n) = WP (MX3_pileNow g) Q (70, [l0, l1, l2, l3, l4, l5, l6], .int a :: .int a :: st, w, k, n) := dupI_e rfl (dt_q dX3_pileNow_68_D 1 rfl)
theorem eX3_pileNow_69R : WP (MX3_pileNow g) Q (69, [l0, l1, l2, l3, l4, l5, l6], .ref p :: st, w, k, n) = WP (MX3_pileNow g) Q (70, [l0, l1, l2, l3, l4, l5, l6], .ref p :: .ref p :: st, w, k, n) := dupR_e rfl (dt_q dX3_pileNow_68_D 1 rfl)
theorem eX3_pileNow_70 : WP (MX3_pileNow g) Q (70, [l0, l1, l2, l3, l4, l5, l6], st, w, k, n) = WP (MX3_pileNow g) Q (71, [l0, l1, l2, l3, l4, l5, l6], .int 3 :: st, w, k, n) := ic_3 rfl (dt_q dX3_pileNow_68_D 2 rfl)
theorem eX3_pileNow_71 : WP (MX3_pileNow g) Q (71, [l0, l1, l2, l3, l4, some (.ref p), l6], st, w, k, n) = WP (MX3_pileNow g) Q (73, [l0, l1, l2, l3, l4, some (.ref p), l6], .ref p :: st, w, k, n) := alR_e rfl (dt_q dX3_pileNow_68_D 3 rfl) rfl
theorem eX3_pileNow_71N : WP (MX3_pileNow g) Q (71, [l0, l1, l2, l3, l4, some .null, l6], st, w, k, n) = WP (MX3_pileNow g) Q (73, [l0, l1, l2, l3, l4, some .null, l6], .null :: st, w, k, n) := alN_e rfl (dt_q dX3_pileNow_68_D 3 rfl) rfl
theorem eX3_pileNow_73R {z0 : Nat} : WP (MX3_pileNow g) Q (73, [l0, l1, l2, l3, l4, l5, l6], .ref z0 :: st, w, k, n) = (wt st ≤ 8 ∧ k + 0 ≤ 12 ∧ n + 0 ≤ 72 ∧ WP (MX3_fixed g) (kx (fun v w' => WP (MX3_pileNow g) Q (76, [l0, l1, l2, l3, l4, l5, l6], v.toList ++ st, w', k + 0, n + 0)) (fun E w' => Q (.inr E) w')) (0, [some (.ref z0)], [], w, 0, 0)) := csS0 (M := (MX3_pileNow g)) (mc := (fun _ _ => 0)) (ms := (fun _ _ => 0)) (As := [.ref z0]) (rest := st) (MX3_fixed g) rfl rfl rfl (dt_q dX3_pileNow_68_D 4 rfl) rfl rfl rfl rfl rfl rfl rfl
theorem eX3_pileNow_73N  : WP (MX3_pileNow g) Q (73, [l0, l1, l2, l3, l4, l5, l6], .null :: st, w, k, n) = (wt st ≤ 8 ∧ k + 0 ≤ 12 ∧ n + 0 ≤ 72 ∧ WP (MX3_fixed g) (kx (fun v w' => WP (MX3_pileNow g) Q (76, [l0, l1, l2, l3, l4, l5, l6], v.toList ++ st, w', k + 0, n + 0)) (fun E w' => Q (.inr E) w')) (0, [some .null], [], w, 0, 0)) := csS0 (M := (MX3_pileNow g)) (mc := (fun _ _ => 0)) (ms := (fun _ _ => 0)) (As := [.null]) (rest := st) (MX3_fixed g) rfl rfl rfl (dt_q dX3_pileNow_68_D 4 rfl) rfl rfl rfl rfl rfl rfl rfl
theorem eX3_pileNow_76 : WP (MX3_pileNow g) Q (76, [l0, l1, l2, l3, l4, l5, l6], .int b :: .int a :: .ref p :: st, w, k, n) = gb (w p) fun t N f => vp_in a N ∧ WP (MX3_pileNow g) Q (77, [l0, l1, l2, l3, l4, l5, l6], st, upw w p (.inl (t, N, .inl (upd f a.toNatClampNeg (vp_nar (bty t) b)))), k, n) := Eq.trans (WP_at (M := (MX3_pileNow g)) rfl (dt_q dX3_pileNow_68_D 5 rfl) (Or.inr rfl)) rfl
theorem eX3_pileNow_77 : WP (MX3_pileNow g) Q (77, [l0, l1, l2, l3, l4, l5, l6], .int a :: st, w, k, n) = WP (MX3_pileNow g) Q (78, [l0, l1, l2, l3, l4, l5, l6], .int a :: .int a :: st, w, k, n) := dupI_e rfl (dt_q dX3_pileNow_68_D 6 rfl)
theorem eX3_pileNow_77R : WP (MX3_pileNow g) Q (77, [l0, l1, l2, l3, l4, l5, l6], .ref p :: st, w, k, n) = WP (MX3_pileNow g) Q (78, [l0, l1, l2, l3, l4, l5, l6], .ref p :: .ref p :: st, w, k, n) := dupR_e rfl (dt_q dX3_pileNow_68_D 6 rfl)
theorem eX3_pileNow_78 : WP (MX3_pileNow g) Q (78, [l0, l1, l2, l3, l4, l5, l6], st, w, k, n) = WP (MX3_pileNow g) Q (79, [l0, l1, l2, l3, l4, l5, l6], .int 4 :: st, w, k, n) := ic_4 rfl (dt_q dX3_pileNow_68_D 7 rfl)
theorem eX3_pileNow_79 : WP (MX3_pileNow g) Q (79, [l0, l1, l2, l3, l4, some (.ref p), l6], st, w, k, n) = WP (MX3_pileNow g) Q (81, [l0, l1, l2, l3, l4, some (.ref p), l6], .ref p :: st, w, k, n) := alR_e rfl (dt_q dX3_pileNow_68_D 8 rfl) rfl
theorem eX3_pileNow_79N : WP (MX3_pileNow g) Q (79, [l0, l1, l2, l3, l4, some .null, l6], st, w, k, n) = WP (MX3_pileNow g) Q (81, [l0, l1, l2, l3, l4, some .null, l6], .null :: st, w, k, n) := alN_e rfl (dt_q dX3_pileNow_68_D 8 rfl) rfl
theorem eX3_pileNow_81R {z0 : Nat} : WP (MX3_pileNow g) Q (81, [l0, l1, l2, l3, l4, l5, l6], .ref z0 :: st, w, k, n) = (wt st ≤ 8 ∧ k + 0 ≤ 12 ∧ n + 0 ≤ 72 ∧ WP (MX3_small g) (kx (fun v w' => WP (MX3_pileNow g) Q (84, [l0, l1, l2, l3, l4, l5, l6], v.toList ++ st, w', k + 0, n + 0)) (fun E w' => Q (.inr E) w')) (0, [some (.ref z0)], [], w, 0, 0)) := csS0 (M := (MX3_pileNow g)) (mc := (fun _ _ => 0)) (ms := (fun _ _ => 0)) (As := [.ref z0]) (rest := st) (MX3_small g) rfl rfl rfl (dt_q dX3_pileNow_68_D 9 rfl) rfl rfl rfl rfl rfl rfl rfl
theorem eX3_pileNow_81N  : WP (MX3_pileNow g) Q (81, [l0, l1, l2, l3, l4, l5, l6], .null :: st, w, k, n) = (wt st ≤ 8 ∧ k + 0 ≤ 12 ∧ n + 0 ≤ 72 ∧ WP (MX3_small g) (kx (fun v w' => WP (MX3_pileNow g) Q (84, [l0, l1, l2, l3, l4, l5, l6], v.toList ++ st, w', k + 0, n + 0)) (fun E w' => Q (.inr E) w')) (0, [some .null], [], w, 0, 0)) := csS0 (M := (MX3_pileNow g)) (mc := (fun _ _ => 0)) (ms := (fun _ _ => 0)) (As := [.null]) (rest := st) (MX3_small g) rfl rfl rfl (dt_q dX3_pileNow_68_D 9 rfl) rfl rfl rfl rfl rfl rfl rfl
theorem eX3_pileNow_84 : WP (MX3_pileNow g) Q (84, [l0, l1, l2, l3, l4, l5, l6], .int b :: .int a :: .ref p :: st, w, k, n) = gb (w p) fun t N f => vp_in a N ∧ WP (MX3_pileNow g) Q (85, [l0, l1, l2, l3, l4, l5, l6], st, upw w p (.inl (t, N, .inl (upd f a.toNatClampNeg (vp_nar (bty t) b)))), k, n) := Eq.trans (WP_at (M := (MX3_pileNow g)) rfl (dt_q dX3_pileNow_68_D 10 rfl) (Or.inr rfl)) rfl
theorem eX3_pileNow_85 : WP (MX3_pileNow g) Q (85, [l0, l1, l2, l3, l4, l5, l6], .int a :: st, w, k, n) = WP (MX3_pileNow g) Q (86, [l0, l1, l2, l3, l4, l5, l6], .int a :: .int a :: st, w, k, n) := dupI_e rfl (dt_q dX3_pileNow_68_D 11 rfl)
theorem eX3_pileNow_85R : WP (MX3_pileNow g) Q (85, [l0, l1, l2, l3, l4, l5, l6], .ref p :: st, w, k, n) = WP (MX3_pileNow g) Q (86, [l0, l1, l2, l3, l4, l5, l6], .ref p :: .ref p :: st, w, k, n) := dupR_e rfl (dt_q dX3_pileNow_68_D 11 rfl)
theorem eX3_pileNow_86 : WP (MX3_pileNow g) Q (86, [l0, l1, l2, l3, l4, l5, l6], st, w, k, n) = WP (MX3_pileNow g) Q (87, [l0, l1, l2, l3, l4, l5, l6], .int 5 :: st, w, k, n) := ic_5 rfl (dt_q dX3_pileNow_68_D 12 rfl)
theorem eX3_pileNow_87 : WP (MX3_pileNow g) Q (87, [some (.ref p), l1, l2, l3, l4, l5, l6], st, w, k, n) = WP (MX3_pileNow g) Q (88, [some (.ref p), l1, l2, l3, l4, l5, l6], .ref p :: st, w, k, n) := alnR_e rfl (dt_q dX3_pileNow_68_D 13 rfl) rfl
theorem eX3_pileNow_87N : WP (MX3_pileNow g) Q (87, [some .null, l1, l2, l3, l4, l5, l6], st, w, k, n) = WP (MX3_pileNow g) Q (88, [some .null, l1, l2, l3, l4, l5, l6], .null :: st, w, k, n) := alnN_e rfl (dt_q dX3_pileNow_68_D 13 rfl) rfl
theorem eX3_pileNow_88 : WP (MX3_pileNow g) Q (88, [l0, l1, l2, l3, some (.int a), l5, l6], st, w, k, n) = WP (MX3_pileNow g) Q (90, [l0, l1, l2, l3, some (.int a), l5, l6], .int a :: st, w, k, n) := il_e rfl (dt_q dX3_pileNow_68_D 14 rfl) rfl
theorem eX3_pileNow_90 {z0 : Int32} : WP (MX3_pileNow g) Q (90, [l0, l1, l2, l3, l4, l5, l6], .int z0 :: .ref p :: st, w, k, n) = (go (rd g w p) 7 (fun _ => True) ∧ wt st ≤ 8 ∧ k + 0 ≤ 12 ∧ n + 0 ≤ 72 ∧ WP (MX3_isAhead g) (kx (fun v w' => WP (MX3_pileNow g) Q (93, [l0, l1, l2, l3, l4, l5, l6], v.toList ++ st, w', k + 0, n + 0)) (fun E w' => Q (.inr E) w')) (0, [some (.ref p), some (.int z0), none, none], [], w, 0, 0)) := csV0 (M := (MX3_pileNow g)) (mc := (fun _ _ => 0)) (ms := (fun _ _ => 0)) (As := [.int z0]) (rest := st) (MX3_isAhead g) rfl rfl rfl (dt_q dX3_pileNow_68_D 15 rfl) rfl rfl rfl rfl rfl rfl
theorem eX3_pileNow_93 : WP (MX3_pileNow g) Q (93, [l0, l1, l2, l3, l4, l5, l6], .int b :: .int a :: .ref p :: st, w, k, n) = gb (w p) fun t N f => vp_in a N ∧ WP (MX3_pileNow g) Q (94, [l0, l1, l2, l3, l4, l5, l6], st, upw w p (.inl (t, N, .inl (upd f a.toNatClampNeg (vp_nar (bty t) b)))), k, n) := Eq.trans (WP_at (M := (MX3_pileNow g)) rfl (dt_q dX3_pileNow_68_D 16 rfl) (Or.inr rfl)) rfl
theorem eX3_pileNow_94 : WP (MX3_pileNow g) Q (94, [l0, l1, l2, l3, l4, l5, l6], .ref p :: st, w, k, n) = WP (MX3_pileNow g) Q (96, [l0, l1, l2, l3, l4, nl l5, some (.ref p)], st, w, k, n) := asR_e rfl (dt_q dX3_pileNow_68_D 17 rfl) rfl rfl
theorem eX3_pileNow_94N : WP (MX3_pileNow g) Q (94, [l0, l1, l2, l3, l4, l5, l6], .null :: st, w, k, n) = WP (MX3_pileNow g) Q (96, [l0, l1, l2, l3, l4, nl l5, some (.null)], st, w, k, n) := asN_e rfl (dt_q dX3_pileNow_68_D 17 rfl) rfl rfl
theorem eX3_pileNow_96 : WP (MX3_pileNow g) Q (96, [l0, l1, l2, some (.int a), l4, l5, l6], st, w, k, n) = WP (MX3_pileNow g) Q (97, [l0, l1, l2, some (.int a), l4, l5, l6], .int a :: st, w, k, n) := iln_e rfl (dt_q dX3_pileNow_68_D 18 rfl) rfl
theorem eX3_pileNow_97 : WP (MX3_pileNow g) Q (97, [l0, l1, l2, l3, l4, l5, some (.ref p)], st, w, k, n) = WP (MX3_pileNow g) Q (99, [l0, l1, l2, l3, l4, l5, some (.ref p)], .ref p :: st, w, k, n) := alR_e rfl (dt_q dX3_pileNow_68_D 19 rfl) rfl
theorem eX3_pileNow_97N : WP (MX3_pileNow g) Q (97, [l0, l1, l2, l3, l4, l5, some .null], st, w, k, n) = WP (MX3_pileNow g) Q (99, [l0, l1, l2, l3, l4, l5, some .null], .null :: st, w, k, n) := alN_e rfl (dt_q dX3_pileNow_68_D 19 rfl) rfl
theorem eX3_pileNow_99 : WP (MX3_pileNow g) Q (99, [l0, l1, some (.int a), l3, l4, l5, l6], st, w, k, n) = WP (MX3_pileNow g) Q (100, [l0, l1, some (.int a), l3, l4, l5, l6], .int a :: st, w, k, n) := iln_e rfl (dt_q dX3_pileNow_68_D 20 rfl) rfl
theorem eX3_pileNow_100 : WP (MX3_pileNow g) Q (100, [l0, l1, l2, l3, l4, l5, l6], .int a :: .ref p :: st, w, k, n) = gb (rd g w p) fun _ N f => vp_in a N ∧ WP (MX3_pileNow g) Q (101, [l0, l1, l2, l3, l4, l5, l6], .int (f a.toNatClampNeg) :: st, w, k, n) := Eq.trans (WP_at (M := (MX3_pileNow g)) rfl (dt_q dX3_pileNow_68_D 21 rfl) (Or.inr rfl)) rfl
theorem eX3_pileNow_101 {z0 : Int32} : WP (MX3_pileNow g) Q (101, [l0, l1, l2, l3, l4, l5, l6], .int z0 :: st, w, k, n) = (wt st ≤ 8 ∧ k + 0 ≤ 12 ∧ n + 0 ≤ 72 ∧ WP (MX3_one g) (kx (fun v w' => WP (MX3_pileNow g) Q (104, [l0, l1, l2, l3, l4, l5, l6], v.toList ++ st, w', k + 0, n + 0)) (fun E w' => Q (.inr E) w')) (0, [some (.int z0)], [], w, 0, 0)) := csS0 (M := (MX3_pileNow g)) (mc := (fun _ _ => 0)) (ms := (fun _ _ => 0)) (As := [.int z0]) (rest := st) (MX3_one g) rfl rfl rfl (dt_q dX3_pileNow_68_D 22 rfl) rfl rfl rfl rfl rfl rfl rfl
theorem eX3_pileNow_104 : WP (MX3_pileNow g) Q (104, [l0, l1, l2, l3, l4, l5, l6], .int b :: .int a :: st, w, k, n) = WP (MX3_pileNow g) Q (105, [l0, l1, l2, l3, l4, l5, l6], .int (a + b) :: st, w, k, n) := iadd_e rfl (dt_q dX3_pileNow_68_D 23 rfl)
theorem eX3_pileNow_105 : WP (MX3_pileNow g) Q (105, [l0, l1, l2, l3, l4, l5, l6], .int a :: st, w, k, n) = WP (MX3_pileNow g) Q (106, [l0, l1, nl l2, some (.int a), l4, l5, l6], st, w, k, n) := isn_e rfl (dt_q dX3_pileNow_68_D 24 rfl) rfl rfl
theorem eX3_pileNow_106 : WP (MX3_pileNow g) Q (106, [l0, l1, l2, l3, some (.int a), l5, l6], st, w, k, n) = WP (MX3_pileNow g) Q (109, [l0, l1, l2, nl l3, some (.int (a + 1)), l5, l6], st, w, k, n) := Eq.trans (iinc_e (M := (MX3_pileNow g)) (L := [l0, l1, l2, l3, some (.int a), l5, l6]) (d := 1) rfl (dt_q dX3_pileNow_68_D 25 rfl) (by decide) rfl) rfl
theorem eX3_pileNow_109 : WP (MX3_pileNow g) Q (109, [l0, l1, l2, l3, l4, l5, l6], st, w, k, n) = WP (MX3_pileNow g) Q (5, [l0, l1, l2, l3, l4, l5, l6], st, w, k, n) := goto_e rfl (dt_q dX3_pileNow_68_D 26 rfl) (by decide)
theorem eX3_pileNow_112 : WP (MX3_pileNow g) Q (112, [l0, l1, l2, some (.int a), l4, l5, l6], st, w, k, n) = WP (MX3_pileNow g) Q (113, [l0, l1, l2, some (.int a), l4, l5, l6], .int a :: st, w, k, n) := iln_e rfl (dt_q dX3_pileNow_68_D 27 rfl) rfl
set_option maxRecDepth 20000 in
theorem eX3_pileNow_113 : WP (MX3_pileNow g) Q (113, [l0, l1, l2, l3, l4, l5, l6], [.int a], w, k, n) = (k ≤ 12 ∧ n ≤ 72 ∧ Q (.inl (some (.int a))) w) := iretI_e rfl (dt_q dX3_pileNow_68_D 28 rfl) rfl
end
theorem wk_1643 : (.code yX3_isAhead cX3_isAhead 4 (some .boolean) : Jvm.Cond) ∈ WS := WS_t7 145 rfl rfl
theorem wk_1640 : (.methodLink RX3 204 yX3_isAhead : Jvm.Cond) ∈ WS := WS_t7 142 rfl rfl
theorem wk_1642 : (.instanceMethod yX3_isAhead : Jvm.Cond) ∈ WS := WS_t7 144 rfl rfl
theorem wk_56 : (.selects RX3 yX3_isAhead yX3_isAhead : Jvm.Cond) ∈ WS := WS_at 56 (by decide +kernel) rfl
theorem kc_74 {l : Launch} (hl : l.stackTraces = false) {G : GT} {own : String} {i : Nat} (hw : Jvm.Cond.methodLink own i yX3_isAhead ∈ WS) : vCal l G own i (2, 2, 7, 4, (fun _ _ => 0), (fun _ _ => 0), yX3_isAhead, spOf (MX3_isAhead (gg G))) := ⟨cX3_isAhead, 4, some .boolean, fun y hy => by subst hy; exact ⟨by decide, ⟨_, wk_1643, okX3_isAhead hl, Or.inl ⟨Nat.ne_of_beq_eq_false rfl, rfl⟩⟩, wk_60, nc13, ⟨(by decide +kernel : (parseMethodDescriptor yX3_isAhead.desc).map (fun d => d.parameters.length + 1) = some 2), hw, wk_1642, wk_56, (RX3, TX3, 7), rfl, rfl⟩⟩⟩
theorem vMX3_pileNow {l : Launch} (hl : l.stackTraces = false) (G : GT) : vM l G (MX3_pileNow (gg G)) := vM_k RX3 cX3_pileNow rfl rfl (all_c (vF_RX3_20) (all_c (vF_RX3_9) (all_n))) all_n all_n all_n all_n (fun h => absurd rfl h) (all_c (kc_68 hl wk_1520) (all_c (kc_37 hl wk_1376) (all_c (kc_62 hl wk_1459) (all_c (kc_56 hl wk_1392) (all_c (kc_58 hl wk_1427) (all_c (kc_74 hl wk_1640) (all_c (kc_47 hl wk_1311) (all_n)))))))) all_n (all_c (⟨.long, rfl, (fun C h => by cases h), wk_1380⟩) (all_n)) (fun h => absurd rfl h) rfl all_n
theorem okX3_pileNow {l : Launch} (hl : l.stackTraces = false) {G : GT} : ∀ (args : List Value) (w : Hw) (S : Ot → Hw → Prop), spOf (MX3_pileNow (gg G)) args w S → CX l G yX3_pileNow (.code yX3_pileNow cX3_pileNow 7 (some .int)) 5 12 72 args w S := CX_sp (M := MX3_pileNow (gg G)) (y := yX3_pileNow) hl (by decide) rfl (vMX3_pileNow hl G) (fun h => by cases h) rfl
abbrev dX3_pile_0_T : List (Nat × Instr × Nat) := [(0, .aload_n 0, 1), (1, .iload_n 1, 1), (2, .invokestatic 50, 3), (5, .iconst 1, 1), (6, .invokevirtual 54, 3), (9, .ifCond .ne 25, 3), (12, .aload_n 0, 1), (13, .iload_n 2, 1), (14, .iconst 0, 1), (15, .iconst 5, 1), (16, .invokestatic 38, 3), (19, .ifCond .ne 7, 3), (22, .iconst 1, 1), (23, .goto 4, 3), (26, .iconst 0, 1), (27, .iconst 2, 1), (28, .invokevirtual 31, 3), (31, .ifCond .eq 7, 3), (34, .iconst 0, 1), (35, .goto 9, 3), (38, .aload_n 0, 1), (39, .iload_n 1, 1), (40, .iload_n 2, 1), (41, .invokevirtual 207, 3), (44, .ireturn, 1)]
theorem dX3_pile_0_D : dtc cX3_pile dX3_pile_0_T = true := by decide +kernel
def MX3_pile (g : RO) : MT := ((RX3, cX3_pile, 3, 6, 12, 72, false, some .int), [], [], [], [], [], 0, [(50, 0, 1, 0, 2, (fun _ _ => 0), (fun _ _ => 0), yX3_isNoNumber, spOf (MX3_isNoNumber g)), (54, 2, 3, 7, 2, (fun _ _ => 0), (fun _ _ => 0), yX3_start, spOf (MX3_start g)), (38, 0, 3, 0, 1, (fun _ _ => 0), (fun _ _ => 0), yX3_isIn, spOf (MX3_isIn g)), (31, 2, 3, 7, 1, (fun _ _ => 0), (fun _ _ => 0), yX3_refuse, spOf (MX3_refuse g)), (207, 2, 3, 7, 5, (fun _ _ => 12), (fun _ _ => 72), yX3_pileNow, spOf (MX3_pileNow g))], [], [], 0, [], [], g)
section
variable {g : RO} {Q : Ot → Hw → Prop} {st : List Value} {w : Hw} {k n p q : Nat} {a b : Int32} {x y : Int64} {u v : Value} {l0 l1 l2 : Option Value}
theorem eX3_pile_0 : WP (MX3_pile g) Q (0, [some (.ref p), l1, l2], st, w, k, n) = WP (MX3_pile g) Q (1, [some (.ref p), l1, l2], .ref p :: st, w, k, n) := alnR_e rfl (dt_q dX3_pile_0_D 0 rfl) rfl
theorem eX3_pile_0N : WP (MX3_pile g) Q (0, [some .null, l1, l2], st, w, k, n) = WP (MX3_pile g) Q (1, [some .null, l1, l2], .null :: st, w, k, n) := alnN_e rfl (dt_q dX3_pile_0_D 0 rfl) rfl
theorem eX3_pile_1 : WP (MX3_pile g) Q (1, [l0, some (.int a), l2], st, w, k, n) = WP (MX3_pile g) Q (2, [l0, some (.int a), l2], .int a :: st, w, k, n) := iln_e rfl (dt_q dX3_pile_0_D 1 rfl) rfl
theorem eX3_pile_2 {z0 : Int32} : WP (MX3_pile g) Q (2, [l0, l1, l2], .int z0 :: st, w, k, n) = (wt st ≤ 8 ∧ k + 0 ≤ 12 ∧ n + 0 ≤ 72 ∧ WP (MX3_isNoNumber g) (kx (fun v w' => WP (MX3_pile g) Q (5, [l0, l1, l2], v.toList ++ st, w', k + 0, n + 0)) (fun E w' => Q (.inr E) w')) (0, [some (.int z0)], [], w, 0, 0)) := csS0 (M := (MX3_pile g)) (mc := (fun _ _ => 0)) (ms := (fun _ _ => 0)) (As := [.int z0]) (rest := st) (MX3_isNoNumber g) rfl rfl rfl (dt_q dX3_pile_0_D 2 rfl) rfl rfl rfl rfl rfl rfl rfl
theorem eX3_pile_5 : WP (MX3_pile g) Q (5, [l0, l1, l2], st, w, k, n) = WP (MX3_pile g) Q (6, [l0, l1, l2], .int 1 :: st, w, k, n) := ic_1 rfl (dt_q dX3_pile_0_D 3 rfl)
theorem eX3_pile_6 {z0 : Int32} {z1 : Int32} : WP (MX3_pile g) Q (6, [l0, l1, l2], .int z1 :: .int z0 :: .ref p :: st, w, k, n) = (go (rd g w p) 7 (fun _ => True) ∧ wt st ≤ 8 ∧ k + 0 ≤ 12 ∧ n + 0 ≤ 72 ∧ WP (MX3_start g) (kx (fun v w' => WP (MX3_pile g) Q (9, [l0, l1, l2], v.toList ++ st, w', k + 0, n + 0)) (fun E w' => Q (.inr E) w')) (0, [some (.ref p), some (.int z0), some (.int z1)], [], w, 0, 0)) := csV0 (M := (MX3_pile g)) (mc := (fun _ _ => 0)) (ms := (fun _ _ => 0)) (As := [.int z0, .int z1]) (rest := st) (MX3_start g) rfl rfl rfl (dt_q dX3_pile_0_D 4 rfl) rfl rfl rfl rfl rfl rfl
theorem eX3_pile_9 : WP (MX3_pile g) Q (9, [l0, l1, l2], .int a :: st, w, k, n) = if a = 0 then WP (MX3_pile g) Q (12, [l0, l1, l2], st, w, k, n) else WP (MX3_pile g) Q (34, [l0, l1, l2], st, w, k, n) := ifcn_e (a = 0) rfl (dt_q dX3_pile_0_D 5 rfl) rfl (by decide)
theorem eX3_pile_12 : WP (MX3_pile g) Q (12, [some (.ref p), l1, l2], st, w, k, n) = WP (MX3_pile g) Q (13, [some (.ref p), l1, l2], .ref p :: st, w, k, n) := alnR_e rfl (dt_q dX3_pile_0_D 6 rfl) rfl
theorem eX3_pile_12N : WP (MX3_pile g) Q (12, [some .null, l1, l2], st, w, k, n) = WP (MX3_pile g) Q (13, [some .null, l1, l2], .null :: st, w, k, n) := alnN_e rfl (dt_q dX3_pile_0_D 6 rfl) rfl
theorem eX3_pile_13 : WP (MX3_pile g) Q (13, [l0, l1, some (.int a)], st, w, k, n) = WP (MX3_pile g) Q (14, [l0, l1, some (.int a)], .int a :: st, w, k, n) := iln_e rfl (dt_q dX3_pile_0_D 7 rfl) rfl
theorem eX3_pile_14 : WP (MX3_pile g) Q (14, [l0, l1, l2], st, w, k, n) = WP (MX3_pile g) Q (15, [l0, l1, l2], .int 0 :: st, w, k, n) := ic_0 rfl (dt_q dX3_pile_0_D 8 rfl)
theorem eX3_pile_15 : WP (MX3_pile g) Q (15, [l0, l1, l2], st, w, k, n) = WP (MX3_pile g) Q (16, [l0, l1, l2], .int 5 :: st, w, k, n) := ic_5 rfl (dt_q dX3_pile_0_D 9 rfl)
theorem eX3_pile_16 {z0 : Int32} {z1 : Int32} {z2 : Int32} : WP (MX3_pile g) Q (16, [l0, l1, l2], .int z2 :: .int z1 :: .int z0 :: st, w, k, n) = (wt st ≤ 8 ∧ k + 0 ≤ 12 ∧ n + 0 ≤ 72 ∧ WP (MX3_isIn g) (kx (fun v w' => WP (MX3_pile g) Q (19, [l0, l1, l2], v.toList ++ st, w', k + 0, n + 0)) (fun E w' => Q (.inr E) w')) (0, [some (.int z0), some (.int z1), some (.int z2)], [], w, 0, 0)) := csS0 (M := (MX3_pile g)) (mc := (fun _ _ => 0)) (ms := (fun _ _ => 0)) (As := [.int z0, .int z1, .int z2]) (rest := st) (MX3_isIn g) rfl rfl rfl (dt_q dX3_pile_0_D 10 rfl) rfl rfl rfl rfl rfl rfl rfl
theorem eX3_pile_19 : WP (MX3_pile g) Q (19, [l0, l1, l2], .int a :: st, w, k, n) = if a = 0 then WP (MX3_pile g) Q (22, [l0, l1, l2], st, w, k, n) else WP (MX3_pile g) Q (26, [l0, l1, l2], st, w, k, n) := ifcn_e (a = 0) rfl (dt_q dX3_pile_0_D 11 rfl) rfl (by decide)
theorem eX3_pile_22 : WP (MX3_pile g) Q (22, [l0, l1, l2], st, w, k, n) = WP (MX3_pile g) Q (23, [l0, l1, l2], .int 1 :: st, w, k, n) := ic_1 rfl (dt_q dX3_pile_0_D 12 rfl)
theorem eX3_pile_23 : WP (MX3_pile g) Q (23, [l0, l1, l2], st, w, k, n) = WP (MX3_pile g) Q (27, [l0, l1, l2], st, w, k, n) := goto_e rfl (dt_q dX3_pile_0_D 13 rfl) (by decide)
theorem eX3_pile_26 : WP (MX3_pile g) Q (26, [l0, l1, l2], st, w, k, n) = WP (MX3_pile g) Q (27, [l0, l1, l2], .int 0 :: st, w, k, n) := ic_0 rfl (dt_q dX3_pile_0_D 14 rfl)
theorem eX3_pile_27 : WP (MX3_pile g) Q (27, [l0, l1, l2], st, w, k, n) = WP (MX3_pile g) Q (28, [l0, l1, l2], .int 2 :: st, w, k, n) := ic_2 rfl (dt_q dX3_pile_0_D 15 rfl)
theorem eX3_pile_28 {z0 : Int32} {z1 : Int32} : WP (MX3_pile g) Q (28, [l0, l1, l2], .int z1 :: .int z0 :: .ref p :: st, w, k, n) = (go (rd g w p) 7 (fun _ => True) ∧ wt st ≤ 8 ∧ k + 0 ≤ 12 ∧ n + 0 ≤ 72 ∧ WP (MX3_refuse g) (kx (fun v w' => WP (MX3_pile g) Q (31, [l0, l1, l2], v.toList ++ st, w', k + 0, n + 0)) (fun E w' => Q (.inr E) w')) (0, [some (.ref p), some (.int z0), some (.int z1)], [], w, 0, 0)) := csV0 (M := (MX3_pile g)) (mc := (fun _ _ => 0)) (ms := (fun _ _ => 0)) (As := [.int z0, .int z1]) (rest := st) (MX3_refuse g) rfl rfl rfl (dt_q dX3_pile_0_D 16 rfl) rfl rfl rfl rfl rfl rfl
theorem eX3_pile_31 : WP (MX3_pile g) Q (31, [l0, l1, l2], .int a :: st, w, k, n) = if a = 0 then WP (MX3_pile g) Q (38, [l0, l1, l2], st, w, k, n) else WP (MX3_pile g) Q (34, [l0, l1, l2], st, w, k, n) := ifc_e (a = 0) rfl (dt_q dX3_pile_0_D 17 rfl) rfl (by decide)
theorem eX3_pile_34 : WP (MX3_pile g) Q (34, [l0, l1, l2], st, w, k, n) = WP (MX3_pile g) Q (35, [l0, l1, l2], .int 0 :: st, w, k, n) := ic_0 rfl (dt_q dX3_pile_0_D 18 rfl)
theorem eX3_pile_35 : WP (MX3_pile g) Q (35, [l0, l1, l2], st, w, k, n) = WP (MX3_pile g) Q (44, [l0, l1, l2], st, w, k, n) := goto_e rfl (dt_q dX3_pile_0_D 19 rfl) (by decide)
theorem eX3_pile_38 : WP (MX3_pile g) Q (38, [some (.ref p), l1, l2], st, w, k, n) = WP (MX3_pile g) Q (39, [some (.ref p), l1, l2], .ref p :: st, w, k, n) := alnR_e rfl (dt_q dX3_pile_0_D 20 rfl) rfl
theorem eX3_pile_38N : WP (MX3_pile g) Q (38, [some .null, l1, l2], st, w, k, n) = WP (MX3_pile g) Q (39, [some .null, l1, l2], .null :: st, w, k, n) := alnN_e rfl (dt_q dX3_pile_0_D 20 rfl) rfl
theorem eX3_pile_39 : WP (MX3_pile g) Q (39, [l0, some (.int a), l2], st, w, k, n) = WP (MX3_pile g) Q (40, [l0, some (.int a), l2], .int a :: st, w, k, n) := iln_e rfl (dt_q dX3_pile_0_D 21 rfl) rfl
theorem eX3_pile_40 : WP (MX3_pile g) Q (40, [l0, l1, some (.int a)], st, w, k, n) = WP (MX3_pile g) Q (41, [l0, l1, some (.int a)], .int a :: st, w, k, n) := iln_e rfl (dt_q dX3_pile_0_D 22 rfl) rfl
theorem eX3_pile_41 {z0 : Int32} {z1 : Int32} : WP (MX3_pile g) Q (41, [l0, l1, l2], .int z1 :: .int z0 :: .ref p :: st, w, k, n) = (go (rd g w p) 7 (fun _ => True) ∧ wt st ≤ 8 ∧ k + 12 ≤ 12 ∧ n + 72 ≤ 72 ∧ WP (MX3_pileNow g) (kx (fun v w' => WP (MX3_pile g) Q (44, [l0, l1, l2], v.toList ++ st, w', k + 12, n + 72)) (fun E w' => Q (.inr E) w')) (0, [some (.ref p), some (.int z0), some (.int z1), none, none, none, none], [], w, 0, 0)) := csV0 (M := (MX3_pile g)) (mc := (fun _ _ => 12)) (ms := (fun _ _ => 72)) (As := [.int z0, .int z1]) (rest := st) (MX3_pileNow g) rfl rfl rfl (dt_q dX3_pile_0_D 23 rfl) rfl rfl rfl rfl rfl rfl
set_option maxRecDepth 20000 in
theorem eX3_pile_44 : WP (MX3_pile g) Q (44, [l0, l1, l2], [.int a], w, k, n) = (k ≤ 12 ∧ n ≤ 72 ∧ Q (.inl (some (.int a))) w) := iretI_e rfl (dt_q dX3_pile_0_D 24 rfl) rfl
end
theorem wk_1639 : (.code yX3_pileNow cX3_pileNow 7 (some .int) : Jvm.Cond) ∈ WS := WS_t7 141 rfl rfl
theorem wk_1636 : (.methodLink RX3 207 yX3_pileNow : Jvm.Cond) ∈ WS := WS_t7 138 rfl rfl
theorem wk_1638 : (.instanceMethod yX3_pileNow : Jvm.Cond) ∈ WS := WS_t7 140 rfl rfl
theorem wk_55 : (.selects RX3 yX3_pileNow yX3_pileNow : Jvm.Cond) ∈ WS := WS_at 55 (by decide +kernel) rfl
theorem kc_75 {l : Launch} (hl : l.stackTraces = false) {G : GT} {own : String} {i : Nat} (hw : Jvm.Cond.methodLink own i yX3_pileNow ∈ WS) : vCal l G own i (2, 3, 7, 5, (fun _ _ => 12), (fun _ _ => 72), yX3_pileNow, spOf (MX3_pileNow (gg G))) := ⟨cX3_pileNow, 7, some .int, fun y hy => by subst hy; exact ⟨by decide, ⟨_, wk_1639, okX3_pileNow hl, Or.inl ⟨Nat.ne_of_beq_eq_false rfl, rfl⟩⟩, wk_60, nc13, ⟨(by decide +kernel : (parseMethodDescriptor yX3_pileNow.desc).map (fun d => d.parameters.length + 1) = some 3), hw, wk_1638, wk_55, (RX3, TX3, 7), rfl, rfl⟩⟩⟩
theorem vMX3_pile {l : Launch} (hl : l.stackTraces = false) (G : GT) : vM l G (MX3_pile (gg G)) := vM_k RX3 cX3_pile rfl rfl all_n all_n all_n all_n all_n (fun h => absurd rfl h) (all_c (kc_38 hl wk_1222) (all_c (kc_39 hl wk_1228) (all_c (kc_36 hl wk_1225) (all_c (kc_35 hl wk_1232) (all_c (kc_75 hl wk_1636) (all_n)))))) all_n all_n (fun h => absurd rfl h) rfl all_n
theorem okX3_pile {l : Launch} (hl : l.stackTraces = false) {G : GT} : ∀ (args : List Value) (w : Hw) (S : Ot → Hw → Prop), spOf (MX3_pile (gg G)) args w S → CX l G yX3_pile (.code yX3_pile cX3_pile 3 (some .int)) 6 12 72 args w S := CX_sp (M := MX3_pile (gg G)) (y := yX3_pile) hl (by decide) rfl (vMX3_pile hl G) (fun h => by cases h) rfl
end
/-! 40.model13.lean.txt -/
section
abbrev dX3_houseNow_0_T : List (Nat × Instr × Nat) := [(0, .iconst 0, 1), (1, .istore_n 2, 1), (2, .aload_n 0, 1), (3, .getfield 16, 3), (6, .invokevirtual 181, 3), (9, .astore_n 3, 1), (10, .aload_n 3, 1), (11, .invokeinterface 185 1, 5), (16, .ifCond .eq 33, 3), (19, .aload_n 3, 1), (20, .invokeinterface 191 1, 5), (25, .checkcast 125, 3), (28, .astore 4, 2), (30, .iload_n 2, 1), (31, .aload 4, 2), (33, .ifnull 7, 3), (36, .iconst 1, 1), (37, .goto 4, 3), (40, .iconst 0, 1), (41, .invokestatic 92, 3), (44, .iadd, 1), (45, .istore_n 2, 1), (46, .goto (-36), 3), (49, .iconst 5, 1), (50, .newarray .int, 2), (52, .dup, 1), (53, .iconst 0, 1), (54, .iload_n 2, 1), (55, .iastore, 1), (56, .dup, 1), (57, .iconst 1, 1), (58, .aload_n 0, 1), (59, .getfield 20, 3), (62, .invokevirtual 174, 3), (65, .iastore, 1), (66, .dup, 1), (67, .iconst 2, 1), (68, .aload_n 0, 1), (69, .getfield 35, 3), (72, .iastore, 1)]
theorem dX3_houseNow_0_D : dtc cX3_houseNow dX3_houseNow_0_T = true := by decide +kernel
abbrev dX3_houseNow_73_T : List (Nat × Instr × Nat) := [(73, .dup, 1), (74, .iconst 3, 1), (75, .aload_n 0, 1), (76, .getfield 210, 3), (79, .iastore, 1), (80, .dup, 1), (81, .iconst 4, 1), (82, .aload_n 0, 1), (83, .getfield 108, 3), (86, .iastore, 1), (87, .astore_n 3, 1), (88, .aload_n 3, 1), (89, .iload_n 1, 1), (90, .iaload, 1), (91, .ireturn, 1)]
theorem dX3_houseNow_73_D : dtc cX3_houseNow dX3_houseNow_73_T = true := by decide +kernel
def MX3_houseNow (g : RO) : MT := ((RX3, cX3_houseNow, 5, 3, 2, 9, false, some .int), [(16, 7, 2), (20, 7, 3), (35, 7, 4), (210, 7, 5), (108, 7, 6)], [], [], [], [], 0, [(181, 2, 1, 3, 2, (fun _ _ => 1), (fun _ _ => 4), yJx4a65c_iterator_32c93, spOf (MJx4a65c_iterator_32c93 g)), (185, 6, 1, 2, 1, (fun _ _ => 0), (fun _ _ => 0), yJx35411_hasNext_aae02, spOf (MJx35411_hasNext_aae02 g)), (191, 6, 1, 2, 2, (fun _ _ => 0), (fun _ _ => 0), yJx35411_next_0502b, spOf (MJx35411_next_0502b g)), (92, 0, 1, 0, 1, (fun _ _ => 0), (fun _ _ => 0), yX3_one, spOf (MX3_one g)), (174, 2, 1, 3, 1, (fun _ _ => 0), (fun _ _ => 0), yJx4a65c_size_8abf5, spOf (MJx4a65c_size_8abf5 g))], [], [(125, 0)], 0, [], [], g)
section
variable {g : RO} {Q : Ot → Hw → Prop} {st : List Value} {w : Hw} {k n p q : Nat} {a b : Int32} {x y : Int64} {u v : Value} {l0 l1 l2 l3 l4 : Option Value}
theorem eX3_houseNow_0 : WP (MX3_houseNow g) Q (0, [l0, l1, l2, l3, l4], st, w, k, n) = WP (MX3_houseNow g) Q (1, [l0, l1, l2, l3, l4], .int 0 :: st, w, k, n) := ic_0 rfl (dt_q dX3_houseNow_0_D 0 rfl)
theorem eX3_houseNow_1 : WP (MX3_houseNow g) Q (1, [l0, l1, l2, l3, l4], .int a :: st, w, k, n) = WP (MX3_houseNow g) Q (2, [l0, nl l1, some (.int a), l3, l4], st, w, k, n) := isn_e rfl (dt_q dX3_houseNow_0_D 1 rfl) rfl rfl
theorem eX3_houseNow_2 : WP (MX3_houseNow g) Q (2, [some (.ref p), l1, l2, l3, l4], st, w, k, n) = WP (MX3_houseNow g) Q (3, [some (.ref p), l1, l2, l3, l4], .ref p :: st, w, k, n) := alnR_e rfl (dt_q dX3_houseNow_0_D 2 rfl) rfl
theorem eX3_houseNow_2N : WP (MX3_houseNow g) Q (2, [some .null, l1, l2, l3, l4], st, w, k, n) = WP (MX3_houseNow g) Q (3, [some .null, l1, l2, l3, l4], .null :: st, w, k, n) := alnN_e rfl (dt_q dX3_houseNow_0_D 2 rfl) rfl
theorem eX3_houseNow_3 : WP (MX3_houseNow g) Q (3, [l0, l1, l2, l3, l4], .ref p :: st, w, k, n) = go (rd g w p) 7 fun fs => ∃ v, fs[2]? = some v ∧ WP (MX3_houseNow g) Q (6, [l0, l1, l2, l3, l4], v :: st, w, k, n) := get_e rfl (dt_q dX3_houseNow_0_D 3 rfl) rfl
theorem eX3_houseNow_6  : WP (MX3_houseNow g) Q (6, [l0, l1, l2, l3, l4], .ref p :: st, w, k, n) = (go (rd g w p) 3 (fun _ => True) ∧ wt st ≤ 8 ∧ k + 1 ≤ 2 ∧ n + 4 ≤ 9 ∧ WP (MJx4a65c_iterator_32c93 g) (kx (fun v w' => WP (MX3_houseNow g) Q (9, [l0, l1, l2, l3, l4], v.toList ++ st, w', k + 1, n + 4)) (fun E w' => Q (.inr E) w')) (0, [some (.ref p)], [], w, 0, 0)) := csV0 (M := (MX3_houseNow g)) (mc := (fun _ _ => 1)) (ms := (fun _ _ => 4)) (As := []) (rest := st) (MJx4a65c_iterator_32c93 g) rfl rfl rfl (dt_q dX3_houseNow_0_D 4 rfl) rfl rfl rfl rfl rfl rfl
theorem eX3_houseNow_9 : WP (MX3_houseNow g) Q (9, [l0, l1, l2, l3, l4], .ref p :: st, w, k, n) = WP (MX3_houseNow g) Q (10, [l0, l1, nl l2, some (.ref p), l4], st, w, k, n) := asnR_e rfl (dt_q dX3_houseNow_0_D 5 rfl) rfl rfl
theorem eX3_houseNow_9N : WP (MX3_houseNow g) Q (9, [l0, l1, l2, l3, l4], .null :: st, w, k, n) = WP (MX3_houseNow g) Q (10, [l0, l1, nl l2, some (.null), l4], st, w, k, n) := asnN_e rfl (dt_q dX3_houseNow_0_D 5 rfl) rfl rfl
theorem eX3_houseNow_10 : WP (MX3_houseNow g) Q (10, [l0, l1, l2, some (.ref p), l4], st, w, k, n) = WP (MX3_houseNow g) Q (11, [l0, l1, l2, some (.ref p), l4], .ref p :: st, w, k, n) := alnR_e rfl (dt_q dX3_houseNow_0_D 6 rfl) rfl
theorem eX3_houseNow_11  : WP (MX3_houseNow g) Q (11, [l0, l1, l2, l3, l4], .ref p :: st, w, k, n) = (go (rd g w p) 2 (fun _ => True) ∧ wt st ≤ 8 ∧ k + 0 ≤ 2 ∧ n + 0 ≤ 9 ∧ WP (MJx35411_hasNext_aae02 g) (kx (fun v w' => WP (MX3_houseNow g) Q (16, [l0, l1, l2, l3, l4], v.toList ++ st, w', k + 0, n + 0)) (fun E w' => Q (.inr E) w')) (0, [some (.ref p)], [], w, 0, 0)) := csF (M := (MX3_houseNow g)) (mc := (fun _ _ => 0)) (ms := (fun _ _ => 0)) (As := []) (rest := st) (MJx35411_hasNext_aae02 g) rfl rfl (dt_q dX3_houseNow_0_D 7 rfl) rfl rfl (Nat.le_of_ble_eq_true rfl) (Nat.le_of_ble_eq_true rfl) rfl
theorem eX3_houseNow_16 : WP (MX3_houseNow g) Q (16, [l0, l1, l2, l3, l4], .int a :: st, w, k, n) = if a = 0 then WP (MX3_houseNow g) Q (49, [l0, l1, l2, l3, l4], st, w, k, n) else WP (MX3_houseNow g) Q (19, [l0, l1, l2, l3, l4], st, w, k, n) := ifc_e (a = 0) rfl (dt_q dX3_houseNow_0_D 8 rfl) rfl (by decide)
theorem eX3_houseNow_19 : WP (MX3_houseNow g) Q (19, [l0, l1, l2, some (.ref p), l4], st, w, k, n) = WP (MX3_houseNow g) Q (20, [l0, l1, l2, some (.ref p), l4], .ref p :: st, w, k, n) := alnR_e rfl (dt_q dX3_houseNow_0_D 9 rfl) rfl
theorem eX3_houseNow_19N : WP (MX3_houseNow g) Q (19, [l0, l1, l2, some .null, l4], st, w, k, n) = WP (MX3_houseNow g) Q (20, [l0, l1, l2, some .null, l4], .null :: st, w, k, n) := alnN_e rfl (dt_q dX3_houseNow_0_D 9 rfl) rfl
theorem eX3_houseNow_20  : WP (MX3_houseNow g) Q (20, [l0, l1, l2, l3, l4], .ref p :: st, w, k, n) = (go (rd g w p) 2 (fun _ => True) ∧ wt st ≤ 8 ∧ k + 0 ≤ 2 ∧ n + 0 ≤ 9 ∧ WP (MJx35411_next_0502b g) (kx (fun v w' => WP (MX3_houseNow g) Q (25, [l0, l1, l2, l3, l4], v.toList ++ st, w', k + 0, n + 0)) (fun E w' => Q (.inr E) w')) (0, [some (.ref p), none, none], [], w, 0, 0)) := csF (M := (MX3_houseNow g)) (mc := (fun _ _ => 0)) (ms := (fun _ _ => 0)) (As := []) (rest := st) (MJx35411_next_0502b g) rfl rfl (dt_q dX3_houseNow_0_D 10 rfl) rfl rfl (Nat.le_of_ble_eq_true rfl) (Nat.le_of_ble_eq_true rfl) rfl
theorem eX3_houseNow_25N : WP (MX3_houseNow g) Q (25, [l0, l1, l2, l3, l4], .null :: st, w, k, n) = WP (MX3_houseNow g) Q (28, [l0, l1, l2, l3, l4], .null :: st, w, k, n) := castN_e rfl (dt_q dX3_houseNow_0_D 11 rfl)
theorem eX3_houseNow_25R : WP (MX3_houseNow g) Q (25, [l0, l1, l2, l3, l4], .ref p :: st, w, k, n) = ((∃ x, w p = some (.inl (0, x))) ∧ WP (MX3_houseNow g) Q (28, [l0, l1, l2, l3, l4], .ref p :: st, w, k, n)) := castR_e rfl (dt_q dX3_houseNow_0_D 11 rfl) rfl
theorem eX3_houseNow_28 : WP (MX3_houseNow g) Q (28, [l0, l1, l2, l3, l4], .ref p :: st, w, k, n) = WP (MX3_houseNow g) Q (30, [l0, l1, l2, nl l3, some (.ref p)], st, w, k, n) := asR_e rfl (dt_q dX3_houseNow_0_D 12 rfl) rfl rfl
theorem eX3_houseNow_28N : WP (MX3_houseNow g) Q (28, [l0, l1, l2, l3, l4], .null :: st, w, k, n) = WP (MX3_houseNow g) Q (30, [l0, l1, l2, nl l3, some (.null)], st, w, k, n) := asN_e rfl (dt_q dX3_houseNow_0_D 12 rfl) rfl rfl
theorem eX3_houseNow_30 : WP (MX3_houseNow g) Q (30, [l0, l1, some (.int a), l3, l4], st, w, k, n) = WP (MX3_houseNow g) Q (31, [l0, l1, some (.int a), l3, l4], .int a :: st, w, k, n) := iln_e rfl (dt_q dX3_houseNow_0_D 13 rfl) rfl
theorem eX3_houseNow_31 : WP (MX3_houseNow g) Q (31, [l0, l1, l2, l3, some (.ref p)], st, w, k, n) = WP (MX3_houseNow g) Q (33, [l0, l1, l2, l3, some (.ref p)], .ref p :: st, w, k, n) := alR_e rfl (dt_q dX3_houseNow_0_D 14 rfl) rfl
theorem eX3_houseNow_31N : WP (MX3_houseNow g) Q (31, [l0, l1, l2, l3, some .null], st, w, k, n) = WP (MX3_houseNow g) Q (33, [l0, l1, l2, l3, some .null], .null :: st, w, k, n) := alN_e rfl (dt_q dX3_houseNow_0_D 14 rfl) rfl
theorem eX3_houseNow_33R : WP (MX3_houseNow g) Q (33, [l0, l1, l2, l3, l4], .ref p :: st, w, k, n) = WP (MX3_houseNow g) Q (36, [l0, l1, l2, l3, l4], st, w, k, n) := ifnullR_e rfl (dt_q dX3_houseNow_0_D 15 rfl) (tgt := 40) (by decide)
theorem eX3_houseNow_33N : WP (MX3_houseNow g) Q (33, [l0, l1, l2, l3, l4], .null :: st, w, k, n) = WP (MX3_houseNow g) Q (40, [l0, l1, l2, l3, l4], st, w, k, n) := ifnullN_e rfl (dt_q dX3_houseNow_0_D 15 rfl) (tgt := 40) (by decide)
theorem eX3_houseNow_36 : WP (MX3_houseNow g) Q (36, [l0, l1, l2, l3, l4], st, w, k, n) = WP (MX3_houseNow g) Q (37, [l0, l1, l2, l3, l4], .int 1 :: st, w, k, n) := ic_1 rfl (dt_q dX3_houseNow_0_D 16 rfl)
theorem eX3_houseNow_37 : WP (MX3_houseNow g) Q (37, [l0, l1, l2, l3, l4], st, w, k, n) = WP (MX3_houseNow g) Q (41, [l0, l1, l2, l3, l4], st, w, k, n) := goto_e rfl (dt_q dX3_houseNow_0_D 17 rfl) (by decide)
theorem eX3_houseNow_40 : WP (MX3_houseNow g) Q (40, [l0, l1, l2, l3, l4], st, w, k, n) = WP (MX3_houseNow g) Q (41, [l0, l1, l2, l3, l4], .int 0 :: st, w, k, n) := ic_0 rfl (dt_q dX3_houseNow_0_D 18 rfl)
theorem eX3_houseNow_41 {z0 : Int32} : WP (MX3_houseNow g) Q (41, [l0, l1, l2, l3, l4], .int z0 :: st, w, k, n) = (wt st ≤ 8 ∧ k + 0 ≤ 2 ∧ n + 0 ≤ 9 ∧ WP (MX3_one g) (kx (fun v w' => WP (MX3_houseNow g) Q (44, [l0, l1, l2, l3, l4], v.toList ++ st, w', k + 0, n + 0)) (fun E w' => Q (.inr E) w')) (0, [some (.int z0)], [], w, 0, 0)) := csS0 (M := (MX3_houseNow g)) (mc := (fun _ _ => 0)) (ms := (fun _ _ => 0)) (As := [.int z0]) (rest := st) (MX3_one g) rfl rfl rfl (dt_q dX3_houseNow_0_D 19 rfl) rfl rfl rfl rfl rfl rfl rfl
theorem eX3_houseNow_44 : WP (MX3_houseNow g) Q (44, [l0, l1, l2, l3, l4], .int b :: .int a :: st, w, k, n) = WP (MX3_houseNow g) Q (45, [l0, l1, l2, l3, l4], .int (a + b) :: st, w, k, n) := iadd_e rfl (dt_q dX3_houseNow_0_D 20 rfl)
theorem eX3_houseNow_45 : WP (MX3_houseNow g) Q (45, [l0, l1, l2, l3, l4], .int a :: st, w, k, n) = WP (MX3_houseNow g) Q (46, [l0, nl l1, some (.int a), l3, l4], st, w, k, n) := isn_e rfl (dt_q dX3_houseNow_0_D 21 rfl) rfl rfl
theorem eX3_houseNow_46 : WP (MX3_houseNow g) Q (46, [l0, l1, l2, l3, l4], st, w, k, n) = WP (MX3_houseNow g) Q (10, [l0, l1, l2, l3, l4], st, w, k, n) := goto_e rfl (dt_q dX3_houseNow_0_D 22 rfl) (by decide)
theorem eX3_houseNow_49 : WP (MX3_houseNow g) Q (49, [l0, l1, l2, l3, l4], st, w, k, n) = WP (MX3_houseNow g) Q (50, [l0, l1, l2, l3, l4], .int 5 :: st, w, k, n) := ic_5 rfl (dt_q dX3_houseNow_0_D 23 rfl)
theorem eX3_houseNow_50 : WP (MX3_houseNow g) Q (50, [l0, l1, l2, l3, l4], .int a :: st, w, k, n) = (¬ a < 0 ∧ a.toNatClampNeg ≤ 40000 ∧ k + 1 ≤ 2 ∧ n + a.toNatClampNeg ≤ 9 ∧ ∀ q : Nat, rd g w q = none → WP (MX3_houseNow g) Q (52, [l0, l1, l2, l3, l4], .ref q :: st, upw w q (.inl (1, a.toNatClampNeg, .inl fun _ => 0)), k + 1, n + a.toNatClampNeg)) := Eq.trans (WP_at (M := (MX3_houseNow g)) rfl (dt_q dX3_houseNow_0_D 24 rfl) (Or.inr rfl)) rfl
theorem eX3_houseNow_52 : WP (MX3_houseNow g) Q (52, [l0, l1, l2, l3, l4], .int a :: st, w, k, n) = WP (MX3_houseNow g) Q (53, [l0, l1, l2, l3, l4], .int a :: .int a :: st, w, k, n) := dupI_e rfl (dt_q dX3_houseNow_0_D 25 rfl)
theorem eX3_houseNow_52R : WP (MX3_houseNow g) Q (52, [l0, l1, l2, l3, l4], .ref p :: st, w, k, n) = WP (MX3_houseNow g) Q (53, [l0, l1, l2, l3, l4], .ref p :: .ref p :: st, w, k, n) := dupR_e rfl (dt_q dX3_houseNow_0_D 25 rfl)
theorem eX3_houseNow_53 : WP (MX3_houseNow g) Q (53, [l0, l1, l2, l3, l4], st, w, k, n) = WP (MX3_houseNow g) Q (54, [l0, l1, l2, l3, l4], .int 0 :: st, w, k, n) := ic_0 rfl (dt_q dX3_houseNow_0_D 26 rfl)
theorem eX3_houseNow_54 : WP (MX3_houseNow g) Q (54, [l0, l1, some (.int a), l3, l4], st, w, k, n) = WP (MX3_houseNow g) Q (55, [l0, l1, some (.int a), l3, l4], .int a :: st, w, k, n) := iln_e rfl (dt_q dX3_houseNow_0_D 27 rfl) rfl
theorem eX3_houseNow_55 : WP (MX3_houseNow g) Q (55, [l0, l1, l2, l3, l4], .int b :: .int a :: .ref p :: st, w, k, n) = gi (w p) 1 fun N f => vp_in a N ∧ WP (MX3_houseNow g) Q (56, [l0, l1, l2, l3, l4], st, upw w p (.inl (1, N, .inl (upd f a.toNatClampNeg b))), k, n) := Eq.trans (WP_at (M := (MX3_houseNow g)) rfl (dt_q dX3_houseNow_0_D 28 rfl) (Or.inr rfl)) rfl
theorem eX3_houseNow_56 : WP (MX3_houseNow g) Q (56, [l0, l1, l2, l3, l4], .int a :: st, w, k, n) = WP (MX3_houseNow g) Q (57, [l0, l1, l2, l3, l4], .int a :: .int a :: st, w, k, n) := dupI_e rfl (dt_q dX3_houseNow_0_D 29 rfl)
theorem eX3_houseNow_56R : WP (MX3_houseNow g) Q (56, [l0, l1, l2, l3, l4], .ref p :: st, w, k, n) = WP (MX3_houseNow g) Q (57, [l0, l1, l2, l3, l4], .ref p :: .ref p :: st, w, k, n) := dupR_e rfl (dt_q dX3_houseNow_0_D 29 rfl)
theorem eX3_houseNow_57 : WP (MX3_houseNow g) Q (57, [l0, l1, l2, l3, l4], st, w, k, n) = WP (MX3_houseNow g) Q (58, [l0, l1, l2, l3, l4], .int 1 :: st, w, k, n) := ic_1 rfl (dt_q dX3_houseNow_0_D 30 rfl)
theorem eX3_houseNow_58 : WP (MX3_houseNow g) Q (58, [some (.ref p), l1, l2, l3, l4], st, w, k, n) = WP (MX3_houseNow g) Q (59, [some (.ref p), l1, l2, l3, l4], .ref p :: st, w, k, n) := alnR_e rfl (dt_q dX3_houseNow_0_D 31 rfl) rfl
theorem eX3_houseNow_58N : WP (MX3_houseNow g) Q (58, [some .null, l1, l2, l3, l4], st, w, k, n) = WP (MX3_houseNow g) Q (59, [some .null, l1, l2, l3, l4], .null :: st, w, k, n) := alnN_e rfl (dt_q dX3_houseNow_0_D 31 rfl) rfl
theorem eX3_houseNow_59 : WP (MX3_houseNow g) Q (59, [l0, l1, l2, l3, l4], .ref p :: st, w, k, n) = go (rd g w p) 7 fun fs => ∃ v, fs[3]? = some v ∧ WP (MX3_houseNow g) Q (62, [l0, l1, l2, l3, l4], v :: st, w, k, n) := get_e rfl (dt_q dX3_houseNow_0_D 32 rfl) rfl
theorem eX3_houseNow_62  : WP (MX3_houseNow g) Q (62, [l0, l1, l2, l3, l4], .ref p :: st, w, k, n) = (go (rd g w p) 3 (fun _ => True) ∧ wt st ≤ 8 ∧ k + 0 ≤ 2 ∧ n + 0 ≤ 9 ∧ WP (MJx4a65c_size_8abf5 g) (kx (fun v w' => WP (MX3_houseNow g) Q (65, [l0, l1, l2, l3, l4], v.toList ++ st, w', k + 0, n + 0)) (fun E w' => Q (.inr E) w')) (0, [some (.ref p)], [], w, 0, 0)) := csV0 (M := (MX3_houseNow g)) (mc := (fun _ _ => 0)) (ms := (fun _ _ => 0)) (As := []) (rest := st) (MJx4a65c_size_8abf5 g) rfl rfl rfl (dt_q dX3_houseNow_0_D 33 rfl) rfl rfl rfl rfl rfl rfl
theorem eX3_houseNow_65 : WP (MX3_houseNow g) Q (65, [l0, l1, l2, l3, l4], .int b :: .int a :: .ref p :: st, w, k, n) = gi (w p) 1 fun N f => vp_in a N ∧ WP (MX3_houseNow g) Q (66, [l0, l1, l2, l3, l4], st, upw w p (.inl (1, N, .inl (upd f a.toNatClampNeg b))), k, n) := Eq.trans (WP_at (M := (MX3_houseNow g)) rfl (dt_q dX3_houseNow_0_D 34 rfl) (Or.inr rfl)) rfl
theorem eX3_houseNow_66 : WP (MX3_houseNow g) Q (66, [l0, l1, l2, l3, l4], .int a :: st, w, k, n) = WP (MX3_houseNow g) Q (67, [l0, l1, l2, l3, l4], .int a :: .int a :: st, w, k, n) := dupI_e rfl (dt_q dX3_houseNow_0_D 35 rfl)
theorem eX3_houseNow_66R : WP (MX3_houseNow g) Q (66, [l0, l1, l2, l3, l4], .ref p :: st, w, k, n) = WP (MX3_houseNow g) Q (67, [l0, l1, l2, l3, l4], .ref p :: .ref p :: st, w, k, n) := dupR_e rfl (dt_q dX3_houseNow_0_D 35 rfl)
theorem eX3_houseNow_67 : WP (MX3_houseNow g) Q (67, [l0, l1, l2, l3, l4], st, w, k, n) = WP (MX3_houseNow g) Q (68, [l0, l1, l2, l3, l4], .int 2 :: st, w, k, n) := ic_2 rfl (dt_q dX3_houseNow_0_D 36 rfl)
theorem eX3_houseNow_68 : WP (MX3_houseNow g) Q (68, [some (.ref p), l1, l2, l3, l4], st, w, k, n) = WP (MX3_houseNow g) Q (69, [some (.ref p), l1, l2, l3, l4], .ref p :: st, w, k, n) := alnR_e rfl (dt_q dX3_houseNow_0_D 37 rfl) rfl
theorem eX3_houseNow_68N : WP (MX3_houseNow g) Q (68, [some .null, l1, l2, l3, l4], st, w, k, n) = WP (MX3_houseNow g) Q (69, [some .null, l1, l2, l3, l4], .null :: st, w, k, n) := alnN_e rfl (dt_q dX3_houseNow_0_D 37 rfl) rfl
theorem eX3_houseNow_69 : WP (MX3_houseNow g) Q (69, [l0, l1, l2, l3, l4], .ref p :: st, w, k, n) = go (rd g w p) 7 fun fs => ∃ v, fs[4]? = some v ∧ WP (MX3_houseNow g) Q (72, [l0, l1, l2, l3, l4], v :: st, w, k, n) := get_e rfl (dt_q dX3_houseNow_0_D 38 rfl) rfl
theorem eX3_houseNow_72 : WP (MX3_houseNow g) Q (72, [l0, l1, l2, l3, l4], .int b :: .int a :: .ref p :: st, w, k, n) = gi (w p) 1 fun N f => vp_in a N ∧ WP (MX3_houseNow g) Q (73, [l0, l1, l2, l3, l4], st, upw w p (.inl (1, N, .inl (upd f a.toNatClampNeg b))), k, n) := Eq.trans (WP_at (M := (MX3_houseNow g)) rfl (dt_q dX3_houseNow_0_D 39 rfl) (Or.inr rfl)) rfl
theorem eX3_houseNow_73 : WP (MX3_houseNow g) Q (73, [l0, l1, l2, l3, l4], .int a :: st, w, k, n) = WP (MX3_houseNow g) Q (74, [l0, l1, l2, l3, l4], .int a :: .int a :: st, w, k, n) := dupI_e rfl (dt_q dX3_houseNow_73_D 0 rfl)
theorem eX3_houseNow_73R : WP (MX3_houseNow g) Q (73, [l0, l1, l2, l3, l4], .ref p :: st, w, k, n) = WP (MX3_houseNow g) Q (74, [l0, l1, l2, l3, l4], .ref p :: .ref p :: st, w, k, n) := dupR_e rfl (dt_q dX3_houseNow_73_D 0 rfl)
theorem eX3_houseNow_74 : WP (MX3_houseNow g) Q (74, [l0, l1, l2, l3, l4], st, w, k, n) = WP (MX3_houseNow g) Q (75, [l0, l1, l2, l3, l4], .int 3 :: st, w, k, n) := ic_3 rfl (dt_q dX3_houseNow_73_D 1 rfl)
theorem eX3_houseNow_75 : WP (MX3_houseNow g) Q (75, [some (.ref p), l1, l2, l3, l4], st, w, k, n) = WP (MX3_houseNow g) Q (76, [some (.ref p), l1, l2, l3, l4], .ref p :: st, w, k, n) := alnR_e rfl (dt_q dX3_houseNow_73_D 2 rfl) rfl
theorem eX3_houseNow_75N : WP (MX3_houseNow g) Q (75, [some .null, l1, l2, l3, l4], st, w, k, n) = WP (MX3_houseNow g) Q (76, [some .null, l1, l2, l3, l4], .null :: st, w, k, n) := alnN_e rfl (dt_q dX3_houseNow_73_D 2 rfl) rfl
theorem eX3_houseNow_76 : WP (MX3_houseNow g) Q (76, [l0, l1, l2, l3, l4], .ref p :: st, w, k, n) = go (rd g w p) 7 fun fs => ∃ v, fs[5]? = some v ∧ WP (MX3_houseNow g) Q (79, [l0, l1, l2, l3, l4], v :: st, w, k, n) := get_e rfl (dt_q dX3_houseNow_73_D 3 rfl) rfl
theorem eX3_houseNow_79 : WP (MX3_houseNow g) Q (79, [l0, l1, l2, l3, l4], .int b :: .int a :: .ref p :: st, w, k, n) = gi (w p) 1 fun N f => vp_in a N ∧ WP (MX3_houseNow g) Q (80, [l0, l1, l2, l3, l4], st, upw w p (.inl (1, N, .inl (upd f a.toNatClampNeg b))), k, n) := Eq.trans (WP_at (M := (MX3_houseNow g)) rfl (dt_q dX3_houseNow_73_D 4 rfl) (Or.inr rfl)) rfl
theorem eX3_houseNow_80 : WP (MX3_houseNow g) Q (80, [l0, l1, l2, l3, l4], .int a :: st, w, k, n) = WP (MX3_houseNow g) Q (81, [l0, l1, l2, l3, l4], .int a :: .int a :: st, w, k, n) := dupI_e rfl (dt_q dX3_houseNow_73_D 5 rfl)
theorem eX3_houseNow_80R : WP (MX3_houseNow g) Q (80, [l0, l1, l2, l3, l4], .ref p :: st, w, k, n) = WP (MX3_houseNow g) Q (81, [l0, l1, l2, l3, l4], .ref p :: .ref p :: st, w, k, n) := dupR_e rfl (dt_q dX3_houseNow_73_D 5 rfl)
theorem eX3_houseNow_81 : WP (MX3_houseNow g) Q (81, [l0, l1, l2, l3, l4], st, w, k, n) = WP (MX3_houseNow g) Q (82, [l0, l1, l2, l3, l4], .int 4 :: st, w, k, n) := ic_4 rfl (dt_q dX3_houseNow_73_D 6 rfl)
theorem eX3_houseNow_82 : WP (MX3_houseNow g) Q (82, [some (.ref p), l1, l2, l3, l4], st, w, k, n) = WP (MX3_houseNow g) Q (83, [some (.ref p), l1, l2, l3, l4], .ref p :: st, w, k, n) := alnR_e rfl (dt_q dX3_houseNow_73_D 7 rfl) rfl
theorem eX3_houseNow_82N : WP (MX3_houseNow g) Q (82, [some .null, l1, l2, l3, l4], st, w, k, n) = WP (MX3_houseNow g) Q (83, [some .null, l1, l2, l3, l4], .null :: st, w, k, n) := alnN_e rfl (dt_q dX3_houseNow_73_D 7 rfl) rfl
theorem eX3_houseNow_83 : WP (MX3_houseNow g) Q (83, [l0, l1, l2, l3, l4], .ref p :: st, w, k, n) = go (rd g w p) 7 fun fs => ∃ v, fs[6]? = some v ∧ WP (MX3_houseNow g) Q (86, [l0, l1, l2, l3, l4], v :: st, w, k, n) := get_e rfl (dt_q dX3_houseNow_73_D 8 rfl) rfl
theorem eX3_houseNow_86 : WP (MX3_houseNow g) Q (86, [l0, l1, l2, l3, l4], .int b :: .int a :: .ref p :: st, w, k, n) = gi (w p) 1 fun N f => vp_in a N ∧ WP (MX3_houseNow g) Q (87, [l0, l1, l2, l3, l4], st, upw w p (.inl (1, N, .inl (upd f a.toNatClampNeg b))), k, n) := Eq.trans (WP_at (M := (MX3_houseNow g)) rfl (dt_q dX3_houseNow_73_D 9 rfl) (Or.inr rfl)) rfl
theorem eX3_houseNow_87 : WP (MX3_houseNow g) Q (87, [l0, l1, l2, l3, l4], .ref p :: st, w, k, n) = WP (MX3_houseNow g) Q (88, [l0, l1, nl l2, some (.ref p), l4], st, w, k, n) := asnR_e rfl (dt_q dX3_houseNow_73_D 10 rfl) rfl rfl
theorem eX3_houseNow_87N : WP (MX3_houseNow g) Q (87, [l0, l1, l2, l3, l4], .null :: st, w, k, n) = WP (MX3_houseNow g) Q (88, [l0, l1, nl l2, some (.null), l4], st, w, k, n) := asnN_e rfl (dt_q dX3_houseNow_73_D 10 rfl) rfl rfl
theorem eX3_houseNow_88 : WP (MX3_houseNow g) Q (88, [l0, l1, l2, some (.ref p), l4], st, w, k, n) = WP (MX3_houseNow g) Q (89, [l0, l1, l2, some (.ref p), l4], .ref p :: st, w, k, n) := alnR_e rfl (dt_q dX3_houseNow_73_D 11 rfl) rfl
theorem eX3_houseNow_88N : WP (MX3_houseNow g) Q (88, [l0, l1, l2, some .null, l4], st, w, k, n) = WP (MX3_houseNow g) Q (89, [l0, l1, l2, some .null, l4], .null :: st, w, k, n) := alnN_e rfl (dt_q dX3_houseNow_73_D 11 rfl) rfl
theorem eX3_houseNow_89 : WP (MX3_houseNow g) Q (89, [l0, some (.int a), l2, l3, l4], st, w, k, n) = WP (MX3_houseNow g) Q (90, [l0, some (.int a), l2, l3, l4], .int a :: st, w, k, n) := iln_e rfl (dt_q dX3_houseNow_73_D 12 rfl) rfl
theorem eX3_houseNow_90 : WP (MX3_houseNow g) Q (90, [l0, l1, l2, l3, l4], .int a :: .ref p :: st, w, k, n) = gi (rd g w p) 1 fun N f => vp_in a N ∧ WP (MX3_houseNow g) Q (91, [l0, l1, l2, l3, l4], .int (f a.toNatClampNeg) :: st, w, k, n) := iaload_e rfl (dt_q dX3_houseNow_73_D 13 rfl)
set_option maxRecDepth 20000 in
theorem eX3_houseNow_91 : WP (MX3_houseNow g) Q (91, [l0, l1, l2, l3, l4], [.int a], w, k, n) = (k ≤ 2 ∧ n ≤ 9 ∧ Q (.inl (some (.int a))) w) := iretI_e rfl (dt_q dX3_houseNow_73_D 14 rfl) rfl
end
theorem wk_1197 : (.fieldLink RX3 210 "RangecardModel" "knocked" "I" : Jvm.Cond) ∈ WS := WS_t5 179 rfl rfl
theorem vF_RX3_210 : vFld RX3 210 7 5 := ⟨RX3, TX3, 7, tyX3, "RangecardModel", rfl, by decide, iW_7, tyX3_ok, nmX3, Or.inl rfl, Or.inl wk_1197⟩
theorem vMX3_houseNow {l : Launch} (hl : l.stackTraces = false) (G : GT) : vM l G (MX3_houseNow (gg G)) := vM_k RX3 cX3_houseNow rfl rfl (all_c (vF_RX3_16) (all_c (vF_RX3_20) (all_c (vF_RX3_35) (all_c (vF_RX3_210) (all_c (vF_RX3_108) (all_n)))))) all_n all_n all_n all_n (fun h => absurd rfl h) (all_c (kc_70 hl wk_1540) (all_c (⟨cJx35411_hasNext_aae02, 1, some .boolean, fun y hy => by subst hy; exact ⟨by decide, ⟨_, wk_1572, okJx35411_hasNext_aae02 hl, Or.inl ⟨Nat.ne_of_beq_eq_false rfl, rfl⟩⟩, wk_87, nc8, ⟨(⟨"java/util/Iterator", "hasNext", "()Z"⟩ : MethodName), (by decide +kernel : (parseMethodDescriptor (⟨"java/util/Iterator", "hasNext", "()Z"⟩ : MethodName).desc).map (fun d => d.parameters.length + 1) = some 1), wk_1564, wk_1570, (RJx35411, TJx35411, 4), rfl, wk_1568, (by decide : (RJx35411, (⟨"java/util/Iterator", "hasNext", "()Z"⟩ : MethodName), yJx35411_hasNext_aae02) ∈ IFL)⟩⟩⟩) (all_c (⟨cJx35411_next_0502b, 3, some (.object "java/lang/Object"), fun y hy => by subst hy; exact ⟨by decide, ⟨_, wk_1581, okJx35411_next_0502b hl, Or.inl ⟨Nat.ne_of_beq_eq_false rfl, rfl⟩⟩, wk_87, nc8, ⟨(⟨"java/util/Iterator", "next", "()Ljava/lang/Object;"⟩ : MethodName), (by decide +kernel : (parseMethodDescriptor (⟨"java/util/Iterator", "next", "()Ljava/lang/Object;"⟩ : MethodName).desc).map (fun d => d.parameters.length + 1) = some 1), wk_1574, wk_1579, (RJx35411, TJx35411, 4), rfl, wk_1577, (by decide : (RJx35411, (⟨"java/util/Iterator", "next", "()Ljava/lang/Object;"⟩ : MethodName), yJx35411_next_0502b) ∈ IFL)⟩⟩⟩) (all_c (kc_47 hl wk_1311) (all_c (kc_68 hl wk_1520) (all_n)))))) all_n (all_c (⟨.long, rfl, (fun C h => by cases h), wk_1380⟩) (all_n)) (fun h => absurd rfl h) rfl all_n
theorem okX3_houseNow {l : Launch} (hl : l.stackTraces = false) {G : GT} : ∀ (args : List Value) (w : Hw) (S : Ot → Hw → Prop), spOf (MX3_houseNow (gg G)) args w S → CX l G yX3_houseNow (.code yX3_houseNow cX3_houseNow 5 (some .int)) 3 2 9 args w S := CX_sp (M := MX3_houseNow (gg G)) (y := yX3_houseNow) hl (by decide) rfl (vMX3_houseNow hl G) (fun h => by cases h) rfl
abbrev dX3_house_0_T : List (Nat × Instr × Nat) := [(0, .aload_n 0, 1), (1, .iload_n 1, 1), (2, .iconst 0, 1), (3, .iconst 4, 1), (4, .invokestatic 38, 3), (7, .ifCond .ne 7, 3), (10, .iconst 1, 1), (11, .goto 4, 3), (14, .iconst 0, 1), (15, .iconst 1, 1), (16, .invokevirtual 54, 3), (19, .ifCond .eq 7, 3), (22, .iconst 0, 1), (23, .goto 8, 3), (26, .aload_n 0, 1), (27, .iload_n 1, 1), (28, .invokevirtual 213, 3), (31, .ireturn, 1)]
theorem dX3_house_0_D : dtc cX3_house dX3_house_0_T = true := by decide +kernel
def MX3_house (g : RO) : MT := ((RX3, cX3_house, 2, 4, 2, 9, false, some .int), [], [], [], [], [], 0, [(38, 0, 3, 0, 1, (fun _ _ => 0), (fun _ _ => 0), yX3_isIn, spOf (MX3_isIn g)), (54, 2, 3, 7, 2, (fun _ _ => 0), (fun _ _ => 0), yX3_start, spOf (MX3_start g)), (213, 2, 2, 7, 3, (fun _ _ => 2), (fun _ _ => 9), yX3_houseNow, spOf (MX3_houseNow g))], [], [], 0, [], [], g)
section
variable {g : RO} {Q : Ot → Hw → Prop} {st : List Value} {w : Hw} {k n p q : Nat} {a b : Int32} {x y : Int64} {u v : Value} {l0 l1 : Option Value}
theorem eX3_house_0 : WP (MX3_house g) Q (0, [some (.ref p), l1], st, w, k, n) = WP (MX3_house g) Q (1, [some (.ref p), l1], .ref p :: st, w, k, n) := alnR_e rfl (dt_q dX3_house_0_D 0 rfl) rfl
theorem eX3_house_0N : WP (MX3_house g) Q (0, [some .null, l1], st, w, k, n) = WP (MX3_house g) Q (1, [some .null, l1], .null :: st, w, k, n) := alnN_e rfl (dt_q dX3_house_0_D 0 rfl) rfl
theorem eX3_house_1 : WP (MX3_house g) Q (1, [l0, some (.int a)], st, w, k, n) = WP (MX3_house g) Q (2, [l0, some (.int a)], .int a :: st, w, k, n) := iln_e rfl (dt_q dX3_house_0_D 1 rfl) rfl
theorem eX3_house_2 : WP (MX3_house g) Q (2, [l0, l1], st, w, k, n) = WP (MX3_house g) Q (3, [l0, l1], .int 0 :: st, w, k, n) := ic_0 rfl (dt_q dX3_house_0_D 2 rfl)
theorem eX3_house_3 : WP (MX3_house g) Q (3, [l0, l1], st, w, k, n) = WP (MX3_house g) Q (4, [l0, l1], .int 4 :: st, w, k, n) := ic_4 rfl (dt_q dX3_house_0_D 3 rfl)
theorem eX3_house_4 {z0 : Int32} {z1 : Int32} {z2 : Int32} : WP (MX3_house g) Q (4, [l0, l1], .int z2 :: .int z1 :: .int z0 :: st, w, k, n) = (wt st ≤ 8 ∧ k + 0 ≤ 2 ∧ n + 0 ≤ 9 ∧ WP (MX3_isIn g) (kx (fun v w' => WP (MX3_house g) Q (7, [l0, l1], v.toList ++ st, w', k + 0, n + 0)) (fun E w' => Q (.inr E) w')) (0, [some (.int z0), some (.int z1), some (.int z2)], [], w, 0, 0)) := csS0 (M := (MX3_house g)) (mc := (fun _ _ => 0)) (ms := (fun _ _ => 0)) (As := [.int z0, .int z1, .int z2]) (rest := st) (MX3_isIn g) rfl rfl rfl (dt_q dX3_house_0_D 4 rfl) rfl rfl rfl rfl rfl rfl rfl
theorem eX3_house_7 : WP (MX3_house g) Q (7, [l0, l1], .int a :: st, w, k, n) = if a = 0 then WP (MX3_house g) Q (10, [l0, l1], st, w, k, n) else WP (MX3_house g) Q (14, [l0, l1], st, w, k, n) := ifcn_e (a = 0) rfl (dt_q dX3_house_0_D 5 rfl) rfl (by decide)
theorem eX3_house_10 : WP (MX3_house g) Q (10, [l0, l1], st, w, k, n) = WP (MX3_house g) Q (11, [l0, l1], .int 1 :: st, w, k, n) := ic_1 rfl (dt_q dX3_house_0_D 6 rfl)
theorem eX3_house_11 : WP (MX3_house g) Q (11, [l0, l1], st, w, k, n) = WP (MX3_house g) Q (15, [l0, l1], st, w, k, n) := goto_e rfl (dt_q dX3_house_0_D 7 rfl) (by decide)
theorem eX3_house_14 : WP (MX3_house g) Q (14, [l0, l1], st, w, k, n) = WP (MX3_house g) Q (15, [l0, l1], .int 0 :: st, w, k, n) := ic_0 rfl (dt_q dX3_house_0_D 8 rfl)
theorem eX3_house_15 : WP (MX3_house g) Q (15, [l0, l1], st, w, k, n) = WP (MX3_house g) Q (16, [l0, l1], .int 1 :: st, w, k, n) := ic_1 rfl (dt_q dX3_house_0_D 9 rfl)
theorem eX3_house_16 {z0 : Int32} {z1 : Int32} : WP (MX3_house g) Q (16, [l0, l1], .int z1 :: .int z0 :: .ref p :: st, w, k, n) = (go (rd g w p) 7 (fun _ => True) ∧ wt st ≤ 8 ∧ k + 0 ≤ 2 ∧ n + 0 ≤ 9 ∧ WP (MX3_start g) (kx (fun v w' => WP (MX3_house g) Q (19, [l0, l1], v.toList ++ st, w', k + 0, n + 0)) (fun E w' => Q (.inr E) w')) (0, [some (.ref p), some (.int z0), some (.int z1)], [], w, 0, 0)) := csV0 (M := (MX3_house g)) (mc := (fun _ _ => 0)) (ms := (fun _ _ => 0)) (As := [.int z0, .int z1]) (rest := st) (MX3_start g) rfl rfl rfl (dt_q dX3_house_0_D 10 rfl) rfl rfl rfl rfl rfl rfl
theorem eX3_house_19 : WP (MX3_house g) Q (19, [l0, l1], .int a :: st, w, k, n) = if a = 0 then WP (MX3_house g) Q (26, [l0, l1], st, w, k, n) else WP (MX3_house g) Q (22, [l0, l1], st, w, k, n) := ifc_e (a = 0) rfl (dt_q dX3_house_0_D 11 rfl) rfl (by decide)
theorem eX3_house_22 : WP (MX3_house g) Q (22, [l0, l1], st, w, k, n) = WP (MX3_house g) Q (23, [l0, l1], .int 0 :: st, w, k, n) := ic_0 rfl (dt_q dX3_house_0_D 12 rfl)
theorem eX3_house_23 : WP (MX3_house g) Q (23, [l0, l1], st, w, k, n) = WP (MX3_house g) Q (31, [l0, l1], st, w, k, n) := goto_e rfl (dt_q dX3_house_0_D 13 rfl) (by decide)
theorem eX3_house_26 : WP (MX3_house g) Q (26, [some (.ref p), l1], st, w, k, n) = WP (MX3_house g) Q (27, [some (.ref p), l1], .ref p :: st, w, k, n) := alnR_e rfl (dt_q dX3_house_0_D 14 rfl) rfl
theorem eX3_house_26N : WP (MX3_house g) Q (26, [some .null, l1], st, w, k, n) = WP (MX3_house g) Q (27, [some .null, l1], .null :: st, w, k, n) := alnN_e rfl (dt_q dX3_house_0_D 14 rfl) rfl
theorem eX3_house_27 : WP (MX3_house g) Q (27, [l0, some (.int a)], st, w, k, n) = WP (MX3_house g) Q (28, [l0, some (.int a)], .int a :: st, w, k, n) := iln_e rfl (dt_q dX3_house_0_D 15 rfl) rfl
theorem eX3_house_28 {z0 : Int32} : WP (MX3_house g) Q (28, [l0, l1], .int z0 :: .ref p :: st, w, k, n) = (go (rd g w p) 7 (fun _ => True) ∧ wt st ≤ 8 ∧ k + 2 ≤ 2 ∧ n + 9 ≤ 9 ∧ WP (MX3_houseNow g) (kx (fun v w' => WP (MX3_house g) Q (31, [l0, l1], v.toList ++ st, w', k + 2, n + 9)) (fun E w' => Q (.inr E) w')) (0, [some (.ref p), some (.int z0), none, none, none], [], w, 0, 0)) := csV0 (M := (MX3_house g)) (mc := (fun _ _ => 2)) (ms := (fun _ _ => 9)) (As := [.int z0]) (rest := st) (MX3_houseNow g) rfl rfl rfl (dt_q dX3_house_0_D 16 rfl) rfl rfl rfl rfl rfl rfl
theorem eX3_house_31 : WP (MX3_house g) Q (31, [l0, l1], [.int a], w, k, n) = (k ≤ 2 ∧ n ≤ 9 ∧ Q (.inl (some (.int a))) w) := iretI_e rfl (dt_q dX3_house_0_D 17 rfl) rfl
end
theorem wk_1652 : (.code yX3_houseNow cX3_houseNow 5 (some .int) : Jvm.Cond) ∈ WS := WS_t7 154 rfl rfl
theorem wk_1649 : (.methodLink RX3 213 yX3_houseNow : Jvm.Cond) ∈ WS := WS_t7 151 rfl rfl
theorem wk_1651 : (.instanceMethod yX3_houseNow : Jvm.Cond) ∈ WS := WS_t7 153 rfl rfl
theorem wk_57 : (.selects RX3 yX3_houseNow yX3_houseNow : Jvm.Cond) ∈ WS := WS_at 57 (by decide +kernel) rfl
theorem kc_76 {l : Launch} (hl : l.stackTraces = false) {G : GT} {own : String} {i : Nat} (hw : Jvm.Cond.methodLink own i yX3_houseNow ∈ WS) : vCal l G own i (2, 2, 7, 3, (fun _ _ => 2), (fun _ _ => 9), yX3_houseNow, spOf (MX3_houseNow (gg G))) := ⟨cX3_houseNow, 5, some .int, fun y hy => by subst hy; exact ⟨by decide, ⟨_, wk_1652, okX3_houseNow hl, Or.inl ⟨Nat.ne_of_beq_eq_false rfl, rfl⟩⟩, wk_60, nc13, ⟨(by decide +kernel : (parseMethodDescriptor yX3_houseNow.desc).map (fun d => d.parameters.length + 1) = some 2), hw, wk_1651, wk_57, (RX3, TX3, 7), rfl, rfl⟩⟩⟩
theorem vMX3_house {l : Launch} (hl : l.stackTraces = false) (G : GT) : vM l G (MX3_house (gg G)) := vM_k RX3 cX3_house rfl rfl all_n all_n all_n all_n all_n (fun h => absurd rfl h) (all_c (kc_36 hl wk_1225) (all_c (kc_39 hl wk_1228) (all_c (kc_76 hl wk_1649) (all_n)))) all_n all_n (fun h => absurd rfl h) rfl all_n
theorem okX3_house {l : Launch} (hl : l.stackTraces = false) {G : GT} : ∀ (args : List Value) (w : Hw) (S : Ot → Hw → Prop), spOf (MX3_house (gg G)) args w S → CX l G yX3_house (.code yX3_house cX3_house 2 (some .int)) 4 2 9 args w S := CX_sp (M := MX3_house (gg G)) (y := yX3_house) hl (by decide) rfl (vMX3_house hl G) (fun h => by cases h) rfl
abbrev dX3_knock_0_T : List (Nat × Instr × Nat) := [(0, .aload_n 0, 1), (1, .iconst 0, 1), (2, .putfield 27, 3), (5, .aload_n 0, 1), (6, .dup, 1), (7, .getfield 210, 3), (10, .iconst 1, 1), (11, .iadd, 1), (12, .putfield 210, 3), (15, .aload_n 0, 1), (16, .getfield 210, 3), (19, .ireturn, 1)]
theorem dX3_knock_0_D : dtc cX3_knock dX3_knock_0_T = true := by decide +kernel
def MX3_knock (g : RO) : MT := ((RX3, cX3_knock, 1, 1, 0, 0, false, some .int), [(27, 7, 0), (210, 7, 5)], [], [], [], [], 0, [], [], [], 0, [], [], g)
section
variable {g : RO} {Q : Ot → Hw → Prop} {st : List Value} {w : Hw} {k n p q : Nat} {a b : Int32} {x y : Int64} {u v : Value} {l0 : Option Value}
theorem eX3_knock_0 : WP (MX3_knock g) Q (0, [some (.ref p)], st, w, k, n) = WP (MX3_knock g) Q (1, [some (.ref p)], .ref p :: st, w, k, n) := alnR_e rfl (dt_q dX3_knock_0_D 0 rfl) rfl
theorem eX3_knock_0N : WP (MX3_knock g) Q (0, [some .null], st, w, k, n) = WP (MX3_knock g) Q (1, [some .null], .null :: st, w, k, n) := alnN_e rfl (dt_q dX3_knock_0_D 0 rfl) rfl
theorem eX3_knock_1 : WP (MX3_knock g) Q (1, [l0], st, w, k, n) = WP (MX3_knock g) Q (2, [l0], .int 0 :: st, w, k, n) := ic_0 rfl (dt_q dX3_knock_0_D 1 rfl)
theorem eX3_knock_2 : WP (MX3_knock g) Q (2, [l0], v :: .ref p :: st, w, k, n) = go (w p) 7 fun fs => 0 < fs.length ∧ (narrow (.int) v = v ∧ fits (.int) v = true) ∧ WP (MX3_knock g) Q (5, [l0], st, upw w p (.inr (7, fs.set 0 v)), k, n) := put_e (q := (RX3, TX3, 7)) rfl (dt_q dX3_knock_0_D 2 rfl) rfl rfl (tyX3_ok 0 (by decide)) (Or.inl rfl)
theorem eX3_knock_5 : WP (MX3_knock g) Q (5, [some (.ref p)], st, w, k, n) = WP (MX3_knock g) Q (6, [some (.ref p)], .ref p :: st, w, k, n) := alnR_e rfl (dt_q dX3_knock_0_D 3 rfl) rfl
theorem eX3_knock_5N : WP (MX3_knock g) Q (5, [some .null], st, w, k, n) = WP (MX3_knock g) Q (6, [some .null], .null :: st, w, k, n) := alnN_e rfl (dt_q dX3_knock_0_D 3 rfl) rfl
theorem eX3_knock_6 : WP (MX3_knock g) Q (6, [l0], .int a :: st, w, k, n) = WP (MX3_knock g) Q (7, [l0], .int a :: .int a :: st, w, k, n) := dupI_e rfl (dt_q dX3_knock_0_D 4 rfl)
theorem eX3_knock_6R : WP (MX3_knock g) Q (6, [l0], .ref p :: st, w, k, n) = WP (MX3_knock g) Q (7, [l0], .ref p :: .ref p :: st, w, k, n) := dupR_e rfl (dt_q dX3_knock_0_D 4 rfl)
theorem eX3_knock_7 : WP (MX3_knock g) Q (7, [l0], .ref p :: st, w, k, n) = go (rd g w p) 7 fun fs => ∃ v, fs[5]? = some v ∧ WP (MX3_knock g) Q (10, [l0], v :: st, w, k, n) := get_e rfl (dt_q dX3_knock_0_D 5 rfl) rfl
theorem eX3_knock_10 : WP (MX3_knock g) Q (10, [l0], st, w, k, n) = WP (MX3_knock g) Q (11, [l0], .int 1 :: st, w, k, n) := ic_1 rfl (dt_q dX3_knock_0_D 6 rfl)
theorem eX3_knock_11 : WP (MX3_knock g) Q (11, [l0], .int b :: .int a :: st, w, k, n) = WP (MX3_knock g) Q (12, [l0], .int (a + b) :: st, w, k, n) := iadd_e rfl (dt_q dX3_knock_0_D 7 rfl)
theorem eX3_knock_12 : WP (MX3_knock g) Q (12, [l0], v :: .ref p :: st, w, k, n) = go (w p) 7 fun fs => 5 < fs.length ∧ (narrow (.int) v = v ∧ fits (.int) v = true) ∧ WP (MX3_knock g) Q (15, [l0], st, upw w p (.inr (7, fs.set 5 v)), k, n) := put_e (q := (RX3, TX3, 7)) rfl (dt_q dX3_knock_0_D 8 rfl) rfl rfl (tyX3_ok 5 (by decide)) (Or.inl rfl)
theorem eX3_knock_15 : WP (MX3_knock g) Q (15, [some (.ref p)], st, w, k, n) = WP (MX3_knock g) Q (16, [some (.ref p)], .ref p :: st, w, k, n) := alnR_e rfl (dt_q dX3_knock_0_D 9 rfl) rfl
theorem eX3_knock_15N : WP (MX3_knock g) Q (15, [some .null], st, w, k, n) = WP (MX3_knock g) Q (16, [some .null], .null :: st, w, k, n) := alnN_e rfl (dt_q dX3_knock_0_D 9 rfl) rfl
theorem eX3_knock_16 : WP (MX3_knock g) Q (16, [l0], .ref p :: st, w, k, n) = go (rd g w p) 7 fun fs => ∃ v, fs[5]? = some v ∧ WP (MX3_knock g) Q (19, [l0], v :: st, w, k, n) := get_e rfl (dt_q dX3_knock_0_D 10 rfl) rfl
theorem eX3_knock_19 : WP (MX3_knock g) Q (19, [l0], [.int a], w, k, n) = (k ≤ 0 ∧ n ≤ 0 ∧ Q (.inl (some (.int a))) w) := iretI_e rfl (dt_q dX3_knock_0_D 11 rfl) rfl
end
theorem vMX3_knock {l : Launch} (hl : l.stackTraces = false) (G : GT) : vM l G (MX3_knock (gg G)) := vM_k RX3 cX3_knock rfl rfl (all_c (vF_RX3_27) (all_c (vF_RX3_210) (all_n))) all_n all_n all_n all_n (fun h => absurd rfl h) all_n all_n all_n (fun h => absurd rfl h) rfl all_n
theorem okX3_knock {l : Launch} (hl : l.stackTraces = false) {G : GT} : ∀ (args : List Value) (w : Hw) (S : Ot → Hw → Prop), spOf (MX3_knock (gg G)) args w S → CX l G yX3_knock (.code yX3_knock cX3_knock 1 (some .int)) 1 0 0 args w S := CX_sp (M := MX3_knock (gg G)) (y := yX3_knock) hl (by decide) rfl (vMX3_knock hl G) (fun h => by cases h) rfl
abbrev dX3_isSound_0_T : List (Nat × Instr × Nat) := [(0, .aload_n 0, 1), (1, .iconst 0, 1), (2, .putfield 27, 3), (5, .iconst 1, 1), (6, .ireturn, 1)]
theorem dX3_isSound_0_D : dtc cX3_isSound dX3_isSound_0_T = true := by decide +kernel
def MX3_isSound (g : RO) : MT := ((RX3, cX3_isSound, 1, 1, 0, 0, false, some .boolean), [(27, 7, 0)], [], [], [], [], 0, [], [], [], 0, [], [], g)
section
variable {g : RO} {Q : Ot → Hw → Prop} {st : List Value} {w : Hw} {k n p q : Nat} {a b : Int32} {x y : Int64} {u v : Value} {l0 : Option Value}
theorem eX3_isSound_0 : WP (MX3_isSound g) Q (0, [some (.ref p)], st, w, k, n) = WP (MX3_isSound g) Q (1, [some (.ref p)], .ref p :: st, w, k, n) := alnR_e rfl (dt_q dX3_isSound_0_D 0 rfl) rfl
theorem eX3_isSound_0N : WP (MX3_isSound g) Q (0, [some .null], st, w, k, n) = WP (MX3_isSound g) Q (1, [some .null], .null :: st, w, k, n) := alnN_e rfl (dt_q dX3_isSound_0_D 0 rfl) rfl
theorem eX3_isSound_1 : WP (MX3_isSound g) Q (1, [l0], st, w, k, n) = WP (MX3_isSound g) Q (2, [l0], .int 0 :: st, w, k, n) := ic_0 rfl (dt_q dX3_isSound_0_D 1 rfl)
theorem eX3_isSound_2 : WP (MX3_isSound g) Q (2, [l0], v :: .ref p :: st, w, k, n) = go (w p) 7 fun fs => 0 < fs.length ∧ (narrow (.int) v = v ∧ fits (.int) v = true) ∧ WP (MX3_isSound g) Q (5, [l0], st, upw w p (.inr (7, fs.set 0 v)), k, n) := put_e (q := (RX3, TX3, 7)) rfl (dt_q dX3_isSound_0_D 2 rfl) rfl rfl (tyX3_ok 0 (by decide)) (Or.inl rfl)
theorem eX3_isSound_5 : WP (MX3_isSound g) Q (5, [l0], st, w, k, n) = WP (MX3_isSound g) Q (6, [l0], .int 1 :: st, w, k, n) := ic_1 rfl (dt_q dX3_isSound_0_D 3 rfl)
theorem eX3_isSound_6 : WP (MX3_isSound g) Q (6, [l0], [.int a], w, k, n) = (narrow (.boolean) (.int a) = .int a ∧ k ≤ 0 ∧ n ≤ 0 ∧ Q (.inl (some (.int a))) w) := iret_e rfl (dt_q dX3_isSound_0_D 4 rfl) rfl
end
theorem vMX3_isSound {l : Launch} (hl : l.stackTraces = false) (G : GT) : vM l G (MX3_isSound (gg G)) := vM_k RX3 cX3_isSound rfl rfl (all_c (vF_RX3_27) (all_n)) all_n all_n all_n all_n (fun h => absurd rfl h) all_n all_n all_n (fun h => absurd rfl h) rfl all_n
theorem okX3_isSound {l : Launch} (hl : l.stackTraces = false) {G : GT} : ∀ (args : List Value) (w : Hw) (S : Ot → Hw → Prop), spOf (MX3_isSound (gg G)) args w S → CX l G yX3_isSound (.code yX3_isSound cX3_isSound 1 (some .boolean)) 1 0 0 args w S := CX_sp (M := MX3_isSound (gg G)) (y := yX3_isSound) hl (by decide) rfl (vMX3_isSound hl G) (fun h => by cases h) rfl
abbrev dX3_add_0_T : List (Nat × Instr × Nat) := [(0, .lload_n 0, 1), (1, .ldc2_w 216, 3), (4, .lmul, 1), (5, .lload_n 2, 1), (6, .ladd, 1), (7, .lreturn, 1)]
theorem dX3_add_0_D : dtc cX3_add dX3_add_0_T = true := by decide +kernel
def MX3_add (g : RO) : MT := ((RX3, cX3_add, 4, 1, 0, 0, false, some .long), [], [], [], [(216, 31)], [], 0, [], [], [], 0, [], [], g)
section
variable {g : RO} {Q : Ot → Hw → Prop} {st : List Value} {w : Hw} {k n p q : Nat} {a b : Int32} {x y : Int64} {u v : Value} {l0 l1 l2 l3 : Option Value}
theorem eX3_add_0 : WP (MX3_add g) Q (0, [some (.long x), l1, l2, l3], st, w, k, n) = WP (MX3_add g) Q (1, [some (.long x), l1, l2, l3], .long x :: st, w, k, n) := lln_e rfl (dt_q dX3_add_0_D 0 rfl) rfl
theorem eX3_add_1 : WP (MX3_add g) Q (1, [l0, l1, l2, l3], st, w, k, n) = WP (MX3_add g) Q (4, [l0, l1, l2, l3], .long 31 :: st, w, k, n) := ldc2_e rfl (dt_q dX3_add_0_D 1 rfl) rfl
theorem eX3_add_4 : WP (MX3_add g) Q (4, [l0, l1, l2, l3], .long y :: .long x :: st, w, k, n) = WP (MX3_add g) Q (5, [l0, l1, l2, l3], .long (x * y) :: st, w, k, n) := lmul_e rfl (dt_q dX3_add_0_D 2 rfl)
theorem eX3_add_5 : WP (MX3_add g) Q (5, [l0, l1, some (.long x), l3], st, w, k, n) = WP (MX3_add g) Q (6, [l0, l1, some (.long x), l3], .long x :: st, w, k, n) := lln_e rfl (dt_q dX3_add_0_D 3 rfl) rfl
theorem eX3_add_6 : WP (MX3_add g) Q (6, [l0, l1, l2, l3], .long y :: .long x :: st, w, k, n) = WP (MX3_add g) Q (7, [l0, l1, l2, l3], .long (x + y) :: st, w, k, n) := ladd_e rfl (dt_q dX3_add_0_D 4 rfl)
theorem eX3_add_7 : WP (MX3_add g) Q (7, [l0, l1, l2, l3], [.long x], w, k, n) = (k ≤ 0 ∧ n ≤ 0 ∧ Q (.inl (some (.long x))) w) := lret_e rfl (dt_q dX3_add_0_D 5 rfl) rfl
end
theorem wk_1670 : (.constantLong RX3 216 (31) : Jvm.Cond) ∈ WS := WS_t7 172 rfl rfl
theorem vMX3_add {l : Launch} (hl : l.stackTraces = false) (G : GT) : vM l G (MX3_add (gg G)) := vM_k RX3 cX3_add rfl rfl all_n all_n all_n (all_c (wk_1670) (all_n)) all_n (fun h => absurd rfl h) all_n all_n all_n (fun h => absurd rfl h) rfl all_n
theorem okX3_add {l : Launch} (hl : l.stackTraces = false) {G : GT} : ∀ (args : List Value) (w : Hw) (S : Ot → Hw → Prop), spOf (MX3_add (gg G)) args w S → CX l G yX3_add (.code yX3_add cX3_add 4 (some .long)) 1 0 0 args w S := CX_sp (M := MX3_add (gg G)) (y := yX3_add) hl (by decide) rfl (vMX3_add hl G) (fun h => by cases h) rfl
abbrev dX3_digest_0_T : List (Nat × Instr × Nat) := [(0, .aload_n 0, 1), (1, .iconst 0, 1), (2, .putfield 27, 3), (5, .ldc2_w 218, 3), (8, .lstore_n 1, 1), (9, .iconst 0, 1), (10, .istore_n 3, 1), (11, .iload_n 3, 1), (12, .iconst 4, 1), (13, .if_icmp .gt 20, 3), (16, .lload_n 1, 1), (17, .aload_n 0, 1), (18, .iload_n 3, 1), (19, .invokevirtual 213, 3), (22, .i2l, 1), (23, .invokestatic 220, 3), (26, .lstore_n 1, 1), (27, .iinc 3 1, 3), (30, .goto (-19), 3), (33, .iconst 0, 1), (34, .istore_n 3, 1), (35, .iload_n 3, 1), (36, .bipush 8, 2), (38, .if_icmp .ge 57, 3), (41, .lload_n 1, 1), (42, .aload_n 0, 1), (43, .getfield 9, 3), (46, .iload_n 3, 1), (47, .laload, 1), (48, .invokestatic 57, 3), (51, .i2l, 1), (52, .invokestatic 220, 3), (55, .aload_n 0, 1), (56, .getfield 9, 3), (59, .iload_n 3, 1), (60, .laload, 1), (61, .invokestatic 61, 3), (64, .i2l, 1), (65, .invokestatic 220, 3), (68, .aload_n 0, 1)]
theorem dX3_digest_0_D : dtc cX3_digest dX3_digest_0_T = true := by decide +kernel
abbrev dX3_digest_69_T : List (Nat × Instr × Nat) := [(69, .iload_n 3, 1), (70, .iconst 0, 1), (71, .invokevirtual 164, 3), (74, .i2l, 1), (75, .invokestatic 220, 3), (78, .aload_n 0, 1), (79, .iload_n 3, 1), (80, .iconst 1, 1), (81, .invokevirtual 164, 3), (84, .i2l, 1), (85, .invokestatic 220, 3), (88, .lstore_n 1, 1), (89, .iinc 3 1, 3), (92, .goto (-57), 3), (95, .iconst 0, 1), (96, .istore_n 3, 1), (97, .iload_n 3, 1), (98, .bipush 6, 2), (100, .if_icmp .ge 214, 3), (103, .lload_n 1, 1), (104, .aload_n 0, 1), (105, .iload_n 3, 1), (106, .invokevirtual 118, 3), (109, .ifCond .ne 7, 3), (112, .iconst 1, 1), (113, .goto 4, 3), (116, .iconst 0, 1), (117, .invokestatic 92, 3), (120, .i2l, 1), (121, .invokestatic 220, 3), (124, .lstore_n 1, 1), (125, .aload_n 0, 1), (126, .iload_n 3, 1), (127, .invokevirtual 118, 3), (130, .ifCond .eq 6, 3), (133, .goto 175, 3), (136, .aload_n 0, 1), (137, .getfield 16, 3), (140, .iload_n 3, 1), (141, .invokevirtual 42, 3)]
theorem dX3_digest_69_D : dtc cX3_digest dX3_digest_69_T = true := by decide +kernel
abbrev dX3_digest_144_T : List (Nat × Instr × Nat) := [(144, .checkcast 125, 3), (147, .astore 4, 2), (149, .iconst 0, 1), (150, .istore 5, 2), (152, .iload 5, 2), (154, .iconst 4, 1), (155, .if_icmp .ge 59, 3), (158, .lload_n 1, 1), (159, .aload 4, 2), (161, .iload 5, 2), (163, .laload, 1), (164, .invokestatic 57, 3), (167, .i2l, 1), (168, .invokestatic 220, 3), (171, .aload 4, 2), (173, .iload 5, 2), (175, .laload, 1), (176, .invokestatic 61, 3), (179, .i2l, 1), (180, .invokestatic 220, 3), (183, .aload 4, 2), (185, .iload 5, 2), (187, .iconst 0, 1), (188, .invokestatic 160, 3), (191, .i2l, 1), (192, .invokestatic 220, 3), (195, .aload 4, 2), (197, .iload 5, 2), (199, .iconst 1, 1), (200, .invokestatic 160, 3), (203, .i2l, 1), (204, .invokestatic 220, 3), (207, .lstore_n 1, 1), (208, .iinc 5 1, 3), (211, .goto (-59), 3), (214, .lload_n 1, 1), (215, .aload 4, 2), (217, .invokestatic 130, 3), (220, .invokestatic 92, 3), (223, .i2l, 1)]
theorem dX3_digest_144_D : dtc cX3_digest dX3_digest_144_T = true := by decide +kernel
abbrev dX3_digest_224_T : List (Nat × Instr × Nat) := [(224, .invokestatic 220, 3), (227, .aload 4, 2), (229, .invokestatic 137, 3), (232, .invokestatic 92, 3), (235, .i2l, 1), (236, .invokestatic 220, 3), (239, .aload_n 0, 1), (240, .iload_n 3, 1), (241, .invokevirtual 171, 3), (244, .i2l, 1), (245, .invokestatic 220, 3), (248, .lstore_n 1, 1), (249, .lload_n 1, 1), (250, .aload_n 0, 1), (251, .iload_n 3, 1), (252, .iconst 0, 1), (253, .invokevirtual 177, 3), (256, .i2l, 1), (257, .invokestatic 220, 3), (260, .aload_n 0, 1), (261, .iload_n 3, 1), (262, .iconst 1, 1), (263, .invokevirtual 177, 3), (266, .i2l, 1), (267, .invokestatic 220, 3), (270, .aload_n 0, 1), (271, .iload_n 3, 1), (272, .invokevirtual 195, 3), (275, .i2l, 1), (276, .invokestatic 220, 3), (279, .lstore_n 1, 1), (280, .iconst (-1), 1), (281, .istore 5, 2), (283, .iload 5, 2), (285, .iconst 1, 1), (286, .if_icmp .gt 22, 3), (289, .lload_n 1, 1), (290, .aload 4, 2), (292, .iload 5, 2), (294, .invokestatic 156, 3)]
theorem dX3_digest_224_D : dtc cX3_digest dX3_digest_224_T = true := by decide +kernel
abbrev dX3_digest_297_T : List (Nat × Instr × Nat) := [(297, .i2l, 1), (298, .invokestatic 220, 3), (301, .lstore_n 1, 1), (302, .iinc 5 1, 3), (305, .goto (-22), 3), (308, .iinc 3 1, 3), (311, .goto (-214), 3), (314, .iconst 0, 1), (315, .istore_n 3, 1), (316, .iload_n 3, 1), (317, .iconst 2, 1), (318, .if_icmp .gt 20, 3), (321, .lload_n 1, 1), (322, .aload_n 0, 1), (323, .iload_n 3, 1), (324, .invokevirtual 168, 3), (327, .i2l, 1), (328, .invokestatic 220, 3), (331, .lstore_n 1, 1), (332, .iinc 3 1, 3), (335, .goto (-19), 3), (338, .iconst 0, 1), (339, .istore_n 3, 1), (340, .iload_n 3, 1), (341, .iconst 5, 1), (342, .if_icmp .gt 21, 3), (345, .lload_n 1, 1), (346, .aload_n 0, 1), (347, .iconst 0, 1), (348, .iload_n 3, 1), (349, .invokevirtual 207, 3), (352, .i2l, 1), (353, .invokestatic 220, 3), (356, .lstore_n 1, 1), (357, .iinc 3 1, 3), (360, .goto (-20), 3), (363, .lload_n 1, 1), (364, .lconst 1, 1), (365, .invokestatic 220, 3), (368, .lreturn, 1)]
theorem dX3_digest_297_D : dtc cX3_digest dX3_digest_297_T = true := by decide +kernel
def MX3_digest (g : RO) : MT := ((RX3, cX3_digest, 6, 6, 90, 520, false, some .long), [(27, 7, 0), (9, 7, 1), (16, 7, 2)], [], [], [(218, 7783)], [], 0, [(213, 2, 2, 7, 3, (fun _ _ => 2), (fun _ _ => 9), yX3_houseNow, spOf (MX3_houseNow g)), (220, 0, 2, 0, 1, (fun _ _ => 0), (fun _ _ => 0), yX3_add, spOf (MX3_add g)), (57, 0, 1, 0, 1, (fun _ _ => 0), (fun _ _ => 0), yX3_high, spOf (MX3_high g)), (61, 0, 1, 0, 1, (fun _ _ => 0), (fun _ _ => 0), yX3_low, spOf (MX3_low g)), (164, 2, 3, 7, 5, (fun _ _ => 0), (fun _ _ => 0), yX3_whoNow, spOf (MX3_whoNow g)), (118, 2, 2, 7, 4, (fun _ _ => 0), (fun _ _ => 0), yX3_isBare, spOf (MX3_isBare g)), (92, 0, 1, 0, 1, (fun _ _ => 0), (fun _ _ => 0), yX3_one, spOf (MX3_one g)), (42, 2, 2, 3, 3, (fun _ _ => 0), (fun _ _ => 0), yJx4a65c_get_915e3, spOf (MJx4a65c_get_915e3 g)), (160, 0, 3, 0, 3, (fun _ _ => 0), (fun _ _ => 0), yX3_aroundNow, spOf (MX3_aroundNow g)), (130, 0, 1, 0, 1, (fun _ _ => 0), (fun _ _ => 0), yX3_fixed, spOf (MX3_fixed g)), (137, 0, 1, 0, 1, (fun _ _ => 0), (fun _ _ => 0), yX3_small, spOf (MX3_small g)), (171, 2, 2, 7, 5, (fun _ _ => 0), (fun _ _ => 0), yX3_likesNow, spOf (MX3_likesNow g)), (177, 2, 3, 7, 4, (fun _ _ => 0), (fun _ _ => 0), yX3_seekNow, spOf (MX3_seekNow g)), (195, 2, 2, 7, 4, (fun _ _ => 1), (fun _ _ => 4), yX3_oftenNow, spOf (MX3_oftenNow g)), (156, 0, 2, 0, 3, (fun _ _ => 0), (fun _ _ => 0), yX3_whichNow, spOf (MX3_whichNow g)), (168, 2, 2, 7, 5, (fun _ _ => 0), (fun _ _ => 0), yX3_whichNow_, spOf (MX3_whichNow_ g)), (207, 2, 3, 7, 5, (fun _ _ => 12), (fun _ _ => 72), yX3_pileNow, spOf (MX3_pileNow g))], [], [(125, 0)], 0, [], [], g)
section
variable {g : RO} {Q : Ot → Hw → Prop} {st : List Value} {w : Hw} {k n p q : Nat} {a b : Int32} {x y : Int64} {u v : Value} {l0 l1 l2 l3 l4 l5 : Option Value}
theorem eX3_digest_0 : WP (MX3_digest g) Q (0, [some (.ref p), l1, l2, l3, l4, l5], st, w, k, n) = WP (MX3_digest g) Q (1, [some (.ref p), l1, l2, l3, l4, l5], .ref p :: st, w, k, n) := alnR_e rfl (dt_q dX3_digest_0_D 0 rfl) rfl
theorem eX3_digest_0N : WP (MX3_digest g) Q (0, [some .null, l1, l2, l3, l4, l5], st, w, k, n) = WP (MX3_digest g) Q (1, [some .null, l1, l2, l3, l4, l5], .null :: st, w, k, n) := alnN_e rfl (dt_q dX3_digest_0_D 0 rfl) rfl
theorem eX3_digest_1 : WP (MX3_digest g) Q (1, [l0, l1, l2, l3, l4, l5], st, w, k, n) = WP (MX3_digest g) Q (2, [l0, l1, l2, l3, l4, l5], .int 0 :: st, w, k, n) := ic_0 rfl (dt_q dX3_digest_0_D 1 rfl)
theorem eX3_digest_2 : WP (MX3_digest g) Q (2, [l0, l1, l2, l3, l4, l5], v :: .ref p :: st, w, k, n) = go (w p) 7 fun fs => 0 < fs.length ∧ (narrow (.int) v = v ∧ fits (.int) v = true) ∧ WP (MX3_digest g) Q (5, [l0, l1, l2, l3, l4, l5], st, upw w p (.inr (7, fs.set 0 v)), k, n) := put_e (q := (RX3, TX3, 7)) rfl (dt_q dX3_digest_0_D 2 rfl) rfl rfl (tyX3_ok 0 (by decide)) (Or.inl rfl)
theorem eX3_digest_5 : WP (MX3_digest g) Q (5, [l0, l1, l2, l3, l4, l5], st, w, k, n) = WP (MX3_digest g) Q (8, [l0, l1, l2, l3, l4, l5], .long 7783 :: st, w, k, n) := ldc2_e rfl (dt_q dX3_digest_0_D 3 rfl) rfl
theorem eX3_digest_8 : WP (MX3_digest g) Q (8, [l0, l1, l2, l3, l4, l5], .long x :: st, w, k, n) = WP (MX3_digest g) Q (9, [nl l0, some (.long x), none, l3, l4, l5], st, w, k, n) := lsn_e rfl (dt_q dX3_digest_0_D 4 rfl) rfl rfl
theorem eX3_digest_9 : WP (MX3_digest g) Q (9, [l0, l1, l2, l3, l4, l5], st, w, k, n) = WP (MX3_digest g) Q (10, [l0, l1, l2, l3, l4, l5], .int 0 :: st, w, k, n) := ic_0 rfl (dt_q dX3_digest_0_D 5 rfl)
theorem eX3_digest_10 : WP (MX3_digest g) Q (10, [l0, l1, l2, l3, l4, l5], .int a :: st, w, k, n) = WP (MX3_digest g) Q (11, [l0, l1, nl l2, some (.int a), l4, l5], st, w, k, n) := isn_e rfl (dt_q dX3_digest_0_D 6 rfl) rfl rfl
theorem eX3_digest_11 : WP (MX3_digest g) Q (11, [l0, l1, l2, some (.int a), l4, l5], st, w, k, n) = WP (MX3_digest g) Q (12, [l0, l1, l2, some (.int a), l4, l5], .int a :: st, w, k, n) := iln_e rfl (dt_q dX3_digest_0_D 7 rfl) rfl
theorem eX3_digest_12 : WP (MX3_digest g) Q (12, [l0, l1, l2, l3, l4, l5], st, w, k, n) = WP (MX3_digest g) Q (13, [l0, l1, l2, l3, l4, l5], .int 4 :: st, w, k, n) := ic_4 rfl (dt_q dX3_digest_0_D 8 rfl)
theorem eX3_digest_13 : WP (MX3_digest g) Q (13, [l0, l1, l2, l3, l4, l5], .int b :: .int a :: st, w, k, n) = if b < a then WP (MX3_digest g) Q (33, [l0, l1, l2, l3, l4, l5], st, w, k, n) else WP (MX3_digest g) Q (16, [l0, l1, l2, l3, l4, l5], st, w, k, n) := icm_e (b < a) rfl (dt_q dX3_digest_0_D 9 rfl) rfl (by decide)
theorem eX3_digest_16 : WP (MX3_digest g) Q (16, [l0, some (.long x), l2, l3, l4, l5], st, w, k, n) = WP (MX3_digest g) Q (17, [l0, some (.long x), l2, l3, l4, l5], .long x :: st, w, k, n) := lln_e rfl (dt_q dX3_digest_0_D 10 rfl) rfl
theorem eX3_digest_17 : WP (MX3_digest g) Q (17, [some (.ref p), l1, l2, l3, l4, l5], st, w, k, n) = WP (MX3_digest g) Q (18, [some (.ref p), l1, l2, l3, l4, l5], .ref p :: st, w, k, n) := alnR_e rfl (dt_q dX3_digest_0_D 11 rfl) rfl
theorem eX3_digest_17N : WP (MX3_digest g) Q (17, [some .null, l1, l2, l3, l4, l5], st, w, k, n) = WP (MX3_digest g) Q (18, [some .null, l1, l2, l3, l4, l5], .null :: st, w, k, n) := alnN_e rfl (dt_q dX3_digest_0_D 11 rfl) rfl
theorem eX3_digest_18 : WP (MX3_digest g) Q (18, [l0, l1, l2, some (.int a), l4, l5], st, w, k, n) = WP (MX3_digest g) Q (19, [l0, l1, l2, some (.int a), l4, l5], .int a :: st, w, k, n) := iln_e rfl (dt_q dX3_digest_0_D 12 rfl) rfl
theorem eX3_digest_19 {z0 : Int32} : WP (MX3_digest g) Q (19, [l0, l1, l2, l3, l4, l5], .int z0 :: .ref p :: st, w, k, n) = (go (rd g w p) 7 (fun _ => True) ∧ wt st ≤ 8 ∧ k + 2 ≤ 90 ∧ n + 9 ≤ 520 ∧ WP (MX3_houseNow g) (kx (fun v w' => WP (MX3_digest g) Q (22, [l0, l1, l2, l3, l4, l5], v.toList ++ st, w', k + 2, n + 9)) (fun E w' => Q (.inr E) w')) (0, [some (.ref p), some (.int z0), none, none, none], [], w, 0, 0)) := csV0 (M := (MX3_digest g)) (mc := (fun _ _ => 2)) (ms := (fun _ _ => 9)) (As := [.int z0]) (rest := st) (MX3_houseNow g) rfl rfl rfl (dt_q dX3_digest_0_D 13 rfl) rfl rfl rfl rfl rfl rfl
theorem eX3_digest_22 : WP (MX3_digest g) Q (22, [l0, l1, l2, l3, l4, l5], .int a :: st, w, k, n) = WP (MX3_digest g) Q (23, [l0, l1, l2, l3, l4, l5], .long a.toInt64 :: st, w, k, n) := i2l_e rfl (dt_q dX3_digest_0_D 14 rfl)
theorem eX3_digest_23 {z0 : Int64} {z1 : Int64} : WP (MX3_digest g) Q (23, [l0, l1, l2, l3, l4, l5], .long z1 :: .long z0 :: st, w, k, n) = (wt st ≤ 8 ∧ k + 0 ≤ 90 ∧ n + 0 ≤ 520 ∧ WP (MX3_add g) (kx (fun v w' => WP (MX3_digest g) Q (26, [l0, l1, l2, l3, l4, l5], v.toList ++ st, w', k + 0, n + 0)) (fun E w' => Q (.inr E) w')) (0, [some (.long z0), none, some (.long z1), none], [], w, 0, 0)) := csS0 (M := (MX3_digest g)) (mc := (fun _ _ => 0)) (ms := (fun _ _ => 0)) (As := [.long z0, .long z1]) (rest := st) (MX3_add g) rfl rfl rfl (dt_q dX3_digest_0_D 15 rfl) rfl rfl rfl rfl rfl rfl rfl
theorem eX3_digest_26 : WP (MX3_digest g) Q (26, [l0, l1, l2, l3, l4, l5], .long x :: st, w, k, n) = WP (MX3_digest g) Q (27, [nl l0, some (.long x), none, l3, l4, l5], st, w, k, n) := lsn_e rfl (dt_q dX3_digest_0_D 16 rfl) rfl rfl
theorem eX3_digest_27 : WP (MX3_digest g) Q (27, [l0, l1, l2, some (.int a), l4, l5], st, w, k, n) = WP (MX3_digest g) Q (30, [l0, l1, nl l2, some (.int (a + 1)), l4, l5], st, w, k, n) := Eq.trans (iinc_e (M := (MX3_digest g)) (L := [l0, l1, l2, some (.int a), l4, l5]) (d := 1) rfl (dt_q dX3_digest_0_D 17 rfl) (by decide) rfl) rfl
theorem eX3_digest_30 : WP (MX3_digest g) Q (30, [l0, l1, l2, l3, l4, l5], st, w, k, n) = WP (MX3_digest g) Q (11, [l0, l1, l2, l3, l4, l5], st, w, k, n) := goto_e rfl (dt_q dX3_digest_0_D 18 rfl) (by decide)
theorem eX3_digest_33 : WP (MX3_digest g) Q (33, [l0, l1, l2, l3, l4, l5], st, w, k, n) = WP (MX3_digest g) Q (34, [l0, l1, l2, l3, l4, l5], .int 0 :: st, w, k, n) := ic_0 rfl (dt_q dX3_digest_0_D 19 rfl)
theorem eX3_digest_34 : WP (MX3_digest g) Q (34, [l0, l1, l2, l3, l4, l5], .int a :: st, w, k, n) = WP (MX3_digest g) Q (35, [l0, l1, nl l2, some (.int a), l4, l5], st, w, k, n) := isn_e rfl (dt_q dX3_digest_0_D 20 rfl) rfl rfl
theorem eX3_digest_35 : WP (MX3_digest g) Q (35, [l0, l1, l2, some (.int a), l4, l5], st, w, k, n) = WP (MX3_digest g) Q (36, [l0, l1, l2, some (.int a), l4, l5], .int a :: st, w, k, n) := iln_e rfl (dt_q dX3_digest_0_D 21 rfl) rfl
theorem eX3_digest_36 : WP (MX3_digest g) Q (36, [l0, l1, l2, l3, l4, l5], st, w, k, n) = WP (MX3_digest g) Q (38, [l0, l1, l2, l3, l4, l5], .int 8 :: st, w, k, n) := bipush_e rfl (dt_q dX3_digest_0_D 22 rfl) (by decide)
theorem eX3_digest_38 : WP (MX3_digest g) Q (38, [l0, l1, l2, l3, l4, l5], .int b :: .int a :: st, w, k, n) = if b ≤ a then WP (MX3_digest g) Q (95, [l0, l1, l2, l3, l4, l5], st, w, k, n) else WP (MX3_digest g) Q (41, [l0, l1, l2, l3, l4, l5], st, w, k, n) := icm_e (b ≤ a) rfl (dt_q dX3_digest_0_D 23 rfl) rfl (by decide)
theorem eX3_digest_41 : WP (MX3_digest g) Q (41, [l0, some (.long x), l2, l3, l4, l5], st, w, k, n) = WP (MX3_digest g) Q (42, [l0, some (.long x), l2, l3, l4, l5], .long x :: st, w, k, n) := lln_e rfl (dt_q dX3_digest_0_D 24 rfl) rfl
theorem eX3_digest_42 : WP (MX3_digest g) Q (42, [some (.ref p), l1, l2, l3, l4, l5], st, w, k, n) = WP (MX3_digest g) Q (43, [some (.ref p), l1, l2, l3, l4, l5], .ref p :: st, w, k, n) := alnR_e rfl (dt_q dX3_digest_0_D 25 rfl) rfl
theorem eX3_digest_42N : WP (MX3_digest g) Q (42, [some .null, l1, l2, l3, l4, l5], st, w, k, n) = WP (MX3_digest g) Q (43, [some .null, l1, l2, l3, l4, l5], .null :: st, w, k, n) := alnN_e rfl (dt_q dX3_digest_0_D 25 rfl) rfl
theorem eX3_digest_43 : WP (MX3_digest g) Q (43, [l0, l1, l2, l3, l4, l5], .ref p :: st, w, k, n) = go (rd g w p) 7 fun fs => ∃ v, fs[1]? = some v ∧ WP (MX3_digest g) Q (46, [l0, l1, l2, l3, l4, l5], v :: st, w, k, n) := get_e rfl (dt_q dX3_digest_0_D 26 rfl) rfl
theorem eX3_digest_46 : WP (MX3_digest g) Q (46, [l0, l1, l2, some (.int a), l4, l5], st, w, k, n) = WP (MX3_digest g) Q (47, [l0, l1, l2, some (.int a), l4, l5], .int a :: st, w, k, n) := iln_e rfl (dt_q dX3_digest_0_D 27 rfl) rfl
theorem eX3_digest_47 : WP (MX3_digest g) Q (47, [l0, l1, l2, l3, l4, l5], .int a :: .ref p :: st, w, k, n) = gl (rd g w p) 0 fun N f => vp_in a N ∧ WP (MX3_digest g) Q (48, [l0, l1, l2, l3, l4, l5], .long (f a.toNatClampNeg) :: st, w, k, n) := laload_e rfl (dt_q dX3_digest_0_D 28 rfl)
theorem eX3_digest_48 {z0 : Int64} : WP (MX3_digest g) Q (48, [l0, l1, l2, l3, l4, l5], .long z0 :: st, w, k, n) = (wt st ≤ 8 ∧ k + 0 ≤ 90 ∧ n + 0 ≤ 520 ∧ WP (MX3_high g) (kx (fun v w' => WP (MX3_digest g) Q (51, [l0, l1, l2, l3, l4, l5], v.toList ++ st, w', k + 0, n + 0)) (fun E w' => Q (.inr E) w')) (0, [some (.long z0), none], [], w, 0, 0)) := csS0 (M := (MX3_digest g)) (mc := (fun _ _ => 0)) (ms := (fun _ _ => 0)) (As := [.long z0]) (rest := st) (MX3_high g) rfl rfl rfl (dt_q dX3_digest_0_D 29 rfl) rfl rfl rfl rfl rfl rfl rfl
theorem eX3_digest_51 : WP (MX3_digest g) Q (51, [l0, l1, l2, l3, l4, l5], .int a :: st, w, k, n) = WP (MX3_digest g) Q (52, [l0, l1, l2, l3, l4, l5], .long a.toInt64 :: st, w, k, n) := i2l_e rfl (dt_q dX3_digest_0_D 30 rfl)
theorem eX3_digest_52 {z0 : Int64} {z1 : Int64} : WP (MX3_digest g) Q (52, [l0, l1, l2, l3, l4, l5], .long z1 :: .long z0 :: st, w, k, n) = (wt st ≤ 8 ∧ k + 0 ≤ 90 ∧ n + 0 ≤ 520 ∧ WP (MX3_add g) (kx (fun v w' => WP (MX3_digest g) Q (55, [l0, l1, l2, l3, l4, l5], v.toList ++ st, w', k + 0, n + 0)) (fun E w' => Q (.inr E) w')) (0, [some (.long z0), none, some (.long z1), none], [], w, 0, 0)) := csS0 (M := (MX3_digest g)) (mc := (fun _ _ => 0)) (ms := (fun _ _ => 0)) (As := [.long z0, .long z1]) (rest := st) (MX3_add g) rfl rfl rfl (dt_q dX3_digest_0_D 31 rfl) rfl rfl rfl rfl rfl rfl rfl
theorem eX3_digest_55 : WP (MX3_digest g) Q (55, [some (.ref p), l1, l2, l3, l4, l5], st, w, k, n) = WP (MX3_digest g) Q (56, [some (.ref p), l1, l2, l3, l4, l5], .ref p :: st, w, k, n) := alnR_e rfl (dt_q dX3_digest_0_D 32 rfl) rfl
theorem eX3_digest_55N : WP (MX3_digest g) Q (55, [some .null, l1, l2, l3, l4, l5], st, w, k, n) = WP (MX3_digest g) Q (56, [some .null, l1, l2, l3, l4, l5], .null :: st, w, k, n) := alnN_e rfl (dt_q dX3_digest_0_D 32 rfl) rfl
theorem eX3_digest_56 : WP (MX3_digest g) Q (56, [l0, l1, l2, l3, l4, l5], .ref p :: st, w, k, n) = go (rd g w p) 7 fun fs => ∃ v, fs[1]? = some v ∧ WP (MX3_digest g) Q (59, [l0, l1, l2, l3, l4, l5], v :: st, w, k, n) := get_e rfl (dt_q dX3_digest_0_D 33 rfl) rfl
theorem eX3_digest_59 : WP (MX3_digest g) Q (59, [l0, l1, l2, some (.int a), l4, l5], st, w, k, n) = WP (MX3_digest g) Q (60, [l0, l1, l2, some (.int a), l4, l5], .int a :: st, w, k, n) := iln_e rfl (dt_q dX3_digest_0_D 34 rfl) rfl
theorem eX3_digest_60 : WP (MX3_digest g) Q (60, [l0, l1, l2, l3, l4, l5], .int a :: .ref p :: st, w, k, n) = gl (rd g w p) 0 fun N f => vp_in a N ∧ WP (MX3_digest g) Q (61, [l0, l1, l2, l3, l4, l5], .long (f a.toNatClampNeg) :: st, w, k, n) := laload_e rfl (dt_q dX3_digest_0_D 35 rfl)
theorem eX3_digest_61 {z0 : Int64} : WP (MX3_digest g) Q (61, [l0, l1, l2, l3, l4, l5], .long z0 :: st, w, k, n) = (wt st ≤ 8 ∧ k + 0 ≤ 90 ∧ n + 0 ≤ 520 ∧ WP (MX3_low g) (kx (fun v w' => WP (MX3_digest g) Q (64, [l0, l1, l2, l3, l4, l5], v.toList ++ st, w', k + 0, n + 0)) (fun E w' => Q (.inr E) w')) (0, [some (.long z0), none, none, none], [], w, 0, 0)) := csS0 (M := (MX3_digest g)) (mc := (fun _ _ => 0)) (ms := (fun _ _ => 0)) (As := [.long z0]) (rest := st) (MX3_low g) rfl rfl rfl (dt_q dX3_digest_0_D 36 rfl) rfl rfl rfl rfl rfl rfl rfl
theorem eX3_digest_64 : WP (MX3_digest g) Q (64, [l0, l1, l2, l3, l4, l5], .int a :: st, w, k, n) = WP (MX3_digest g) Q (65, [l0, l1, l2, l3, l4, l5], .long a.toInt64 :: st, w, k, n) := i2l_e rfl (dt_q dX3_digest_0_D 37 rfl)
theorem eX3_digest_65 {z0 : Int64} {z1 : Int64} : WP (MX3_digest g) Q (65, [l0, l1, l2, l3, l4, l5], .long z1 :: .long z0 :: st, w, k, n) = (wt st ≤ 8 ∧ k + 0 ≤ 90 ∧ n + 0 ≤ 520 ∧ WP (MX3_add g) (kx (fun v w' => WP (MX3_digest g) Q (68, [l0, l1, l2, l3, l4, l5], v.toList ++ st, w', k + 0, n + 0)) (fun E w' => Q (.inr E) w')) (0, [some (.long z0), none, some (.long z1), none], [], w, 0, 0)) := csS0 (M := (MX3_digest g)) (mc := (fun _ _ => 0)) (ms := (fun _ _ => 0)) (As := [.long z0, .long z1]) (rest := st) (MX3_add g) rfl rfl rfl (dt_q dX3_digest_0_D 38 rfl) rfl rfl rfl rfl rfl rfl rfl
theorem eX3_digest_68 : WP (MX3_digest g) Q (68, [some (.ref p), l1, l2, l3, l4, l5], st, w, k, n) = WP (MX3_digest g) Q (69, [some (.ref p), l1, l2, l3, l4, l5], .ref p :: st, w, k, n) := alnR_e rfl (dt_q dX3_digest_0_D 39 rfl) rfl
theorem eX3_digest_68N : WP (MX3_digest g) Q (68, [some .null, l1, l2, l3, l4, l5], st, w, k, n) = WP (MX3_digest g) Q (69, [some .null, l1, l2, l3, l4, l5], .null :: st, w, k, n) := alnN_e rfl (dt_q dX3_digest_0_D 39 rfl) rfl
theorem eX3_digest_69 : WP (MX3_digest g) Q (69, [l0, l1, l2, some (.int a), l4, l5], st, w, k, n) = WP (MX3_digest g) Q (70, [l0, l1, l2, some (.int a), l4, l5], .int a :: st, w, k, n) := iln_e rfl (dt_q dX3_digest_69_D 0 rfl) rfl
theorem eX3_digest_70 : WP (MX3_digest g) Q (70, [l0, l1, l2, l3, l4, l5], st, w, k, n) = WP (MX3_digest g) Q (71, [l0, l1, l2, l3, l4, l5], .int 0 :: st, w, k, n) := ic_0 rfl (dt_q dX3_digest_69_D 1 rfl)
theorem eX3_digest_71 {z0 : Int32} {z1 : Int32} : WP (MX3_digest g) Q (71, [l0, l1, l2, l3, l4, l5], .int z1 :: .int z0 :: .ref p :: st, w, k, n) = (go (rd g w p) 7 (fun _ => True) ∧ wt st ≤ 8 ∧ k + 0 ≤ 90 ∧ n + 0 ≤ 520 ∧ WP (MX3_whoNow g) (kx (fun v w' => WP (MX3_digest g) Q (74, [l0, l1, l2, l3, l4, l5], v.toList ++ st, w', k + 0, n + 0)) (fun E w' => Q (.inr E) w')) (0, [some (.ref p), some (.int z0), some (.int z1), none, none], [], w, 0, 0)) := csV0 (M := (MX3_digest g)) (mc := (fun _ _ => 0)) (ms := (fun _ _ => 0)) (As := [.int z0, .int z1]) (rest := st) (MX3_whoNow g) rfl rfl rfl (dt_q dX3_digest_69_D 2 rfl) rfl rfl rfl rfl rfl rfl
theorem eX3_digest_74 : WP (MX3_digest g) Q (74, [l0, l1, l2, l3, l4, l5], .int a :: st, w, k, n) = WP (MX3_digest g) Q (75, [l0, l1, l2, l3, l4, l5], .long a.toInt64 :: st, w, k, n) := i2l_e rfl (dt_q dX3_digest_69_D 3 rfl)
theorem eX3_digest_75 {z0 : Int64} {z1 : Int64} : WP (MX3_digest g) Q (75, [l0, l1, l2, l3, l4, l5], .long z1 :: .long z0 :: st, w, k, n) = (wt st ≤ 8 ∧ k + 0 ≤ 90 ∧ n + 0 ≤ 520 ∧ WP (MX3_add g) (kx (fun v w' => WP (MX3_digest g) Q (78, [l0, l1, l2, l3, l4, l5], v.toList ++ st, w', k + 0, n + 0)) (fun E w' => Q (.inr E) w')) (0, [some (.long z0), none, some (.long z1), none], [], w, 0, 0)) := csS0 (M := (MX3_digest g)) (mc := (fun _ _ => 0)) (ms := (fun _ _ => 0)) (As := [.long z0, .long z1]) (rest := st) (MX3_add g) rfl rfl rfl (dt_q dX3_digest_69_D 4 rfl) rfl rfl rfl rfl rfl rfl rfl
theorem eX3_digest_78 : WP (MX3_digest g) Q (78, [some (.ref p), l1, l2, l3, l4, l5], st, w, k, n) = WP (MX3_digest g) Q (79, [some (.ref p), l1, l2, l3, l4, l5], .ref p :: st, w, k, n) := alnR_e rfl (dt_q dX3_digest_69_D 5 rfl) rfl
theorem eX3_digest_78N : WP (MX3_digest g) Q (78, [some .null, l1, l2, l3, l4, l5], st, w, k, n) = WP (MX3_digest g) Q (79, [some .null, l1, l2, l3, l4, l5], .null :: st, w, k, n) := alnN_e rfl (dt_q dX3_digest_69_D 5 rfl) rfl
theorem eX3_digest_79 : WP (MX3_digest g) Q (79, [l0, l1, l2, some (.int a), l4, l5], st, w, k, n) = WP (MX3_digest g) Q (80, [l0, l1, l2, some (.int a), l4, l5], .int a :: st, w, k, n) := iln_e rfl (dt_q dX3_digest_69_D 6 rfl) rfl
theorem eX3_digest_80 : WP (MX3_digest g) Q (80, [l0, l1, l2, l3, l4, l5], st, w, k, n) = WP (MX3_digest g) Q (81, [l0, l1, l2, l3, l4, l5], .int 1 :: st, w, k, n) := ic_1 rfl (dt_q dX3_digest_69_D 7 rfl)
theorem eX3_digest_81 {z0 : Int32} {z1 : Int32} : WP (MX3_digest g) Q (81, [l0, l1, l2, l3, l4, l5], .int z1 :: .int z0 :: .ref p :: st, w, k, n) = (go (rd g w p) 7 (fun _ => True) ∧ wt st ≤ 8 ∧ k + 0 ≤ 90 ∧ n + 0 ≤ 520 ∧ WP (MX3_whoNow g) (kx (fun v w' => WP (MX3_digest g) Q (84, [l0, l1, l2, l3, l4, l5], v.toList ++ st, w', k + 0, n + 0)) (fun E w' => Q (.inr E) w')) (0, [some (.ref p), some (.int z0), some (.int z1), none, none], [], w, 0, 0)) := csV0 (M := (MX3_digest g)) (mc := (fun _ _ => 0)) (ms := (fun _ _ => 0)) (As := [.int z0, .int z1]) (rest := st) (MX3_whoNow g) rfl rfl rfl (dt_q dX3_digest_69_D 8 rfl) rfl rfl rfl rfl rfl rfl
theorem eX3_digest_84 : WP (MX3_digest g) Q (84, [l0, l1, l2, l3, l4, l5], .int a :: st, w, k, n) = WP (MX3_digest g) Q (85, [l0, l1, l2, l3, l4, l5], .long a.toInt64 :: st, w, k, n) := i2l_e rfl (dt_q dX3_digest_69_D 9 rfl)
theorem eX3_digest_85 {z0 : Int64} {z1 : Int64} : WP (MX3_digest g) Q (85, [l0, l1, l2, l3, l4, l5], .long z1 :: .long z0 :: st, w, k, n) = (wt st ≤ 8 ∧ k + 0 ≤ 90 ∧ n + 0 ≤ 520 ∧ WP (MX3_add g) (kx (fun v w' => WP (MX3_digest g) Q (88, [l0, l1, l2, l3, l4, l5], v.toList ++ st, w', k + 0, n + 0)) (fun E w' => Q (.inr E) w')) (0, [some (.long z0), none, some (.long z1), none], [], w, 0, 0)) := csS0 (M := (MX3_digest g)) (mc := (fun _ _ => 0)) (ms := (fun _ _ => 0)) (As := [.long z0, .long z1]) (rest := st) (MX3_add g) rfl rfl rfl (dt_q dX3_digest_69_D 10 rfl) rfl rfl rfl rfl rfl rfl rfl
theorem eX3_digest_88 : WP (MX3_digest g) Q (88, [l0, l1, l2, l3, l4, l5], .long x :: st, w, k, n) = WP (MX3_digest g) Q (89, [nl l0, some (.long x), none, l3, l4, l5], st, w, k, n) := lsn_e rfl (dt_q dX3_digest_69_D 11 rfl) rfl rfl
theorem eX3_digest_89 : WP (MX3_digest g) Q (89, [l0, l1, l2, some (.int a), l4, l5], st, w, k, n) = WP (MX3_digest g) Q (92, [l0, l1, nl l2, some (.int (a + 1)), l4, l5], st, w, k, n) := Eq.trans (iinc_e (M := (MX3_digest g)) (L := [l0, l1, l2, some (.int a), l4, l5]) (d := 1) rfl (dt_q dX3_digest_69_D 12 rfl) (by decide) rfl) rfl
theorem eX3_digest_92 : WP (MX3_digest g) Q (92, [l0, l1, l2, l3, l4, l5], st, w, k, n) = WP (MX3_digest g) Q (35, [l0, l1, l2, l3, l4, l5], st, w, k, n) := goto_e rfl (dt_q dX3_digest_69_D 13 rfl) (by decide)
theorem eX3_digest_95 : WP (MX3_digest g) Q (95, [l0, l1, l2, l3, l4, l5], st, w, k, n) = WP (MX3_digest g) Q (96, [l0, l1, l2, l3, l4, l5], .int 0 :: st, w, k, n) := ic_0 rfl (dt_q dX3_digest_69_D 14 rfl)
theorem eX3_digest_96 : WP (MX3_digest g) Q (96, [l0, l1, l2, l3, l4, l5], .int a :: st, w, k, n) = WP (MX3_digest g) Q (97, [l0, l1, nl l2, some (.int a), l4, l5], st, w, k, n) := isn_e rfl (dt_q dX3_digest_69_D 15 rfl) rfl rfl
theorem eX3_digest_97 : WP (MX3_digest g) Q (97, [l0, l1, l2, some (.int a), l4, l5], st, w, k, n) = WP (MX3_digest g) Q (98, [l0, l1, l2, some (.int a), l4, l5], .int a :: st, w, k, n) := iln_e rfl (dt_q dX3_digest_69_D 16 rfl) rfl
theorem eX3_digest_98 : WP (MX3_digest g) Q (98, [l0, l1, l2, l3, l4, l5], st, w, k, n) = WP (MX3_digest g) Q (100, [l0, l1, l2, l3, l4, l5], .int 6 :: st, w, k, n) := bipush_e rfl (dt_q dX3_digest_69_D 17 rfl) (by decide)
theorem eX3_digest_100 : WP (MX3_digest g) Q (100, [l0, l1, l2, l3, l4, l5], .int b :: .int a :: st, w, k, n) = if b ≤ a then WP (MX3_digest g) Q (314, [l0, l1, l2, l3, l4, l5], st, w, k, n) else WP (MX3_digest g) Q (103, [l0, l1, l2, l3, l4, l5], st, w, k, n) := icm_e (b ≤ a) rfl (dt_q dX3_digest_69_D 18 rfl) rfl (by decide)
theorem eX3_digest_103 : WP (MX3_digest g) Q (103, [l0, some (.long x), l2, l3, l4, l5], st, w, k, n) = WP (MX3_digest g) Q (104, [l0, some (.long x), l2, l3, l4, l5], .long x :: st, w, k, n) := lln_e rfl (dt_q dX3_digest_69_D 19 rfl) rfl
theorem eX3_digest_104 : WP (MX3_digest g) Q (104, [some (.ref p), l1, l2, l3, l4, l5], st, w, k, n) = WP (MX3_digest g) Q (105, [some (.ref p), l1, l2, l3, l4, l5], .ref p :: st, w, k, n) := alnR_e rfl (dt_q dX3_digest_69_D 20 rfl) rfl
theorem eX3_digest_104N : WP (MX3_digest g) Q (104, [some .null, l1, l2, l3, l4, l5], st, w, k, n) = WP (MX3_digest g) Q (105, [some .null, l1, l2, l3, l4, l5], .null :: st, w, k, n) := alnN_e rfl (dt_q dX3_digest_69_D 20 rfl) rfl
theorem eX3_digest_105 : WP (MX3_digest g) Q (105, [l0, l1, l2, some (.int a), l4, l5], st, w, k, n) = WP (MX3_digest g) Q (106, [l0, l1, l2, some (.int a), l4, l5], .int a :: st, w, k, n) := iln_e rfl (dt_q dX3_digest_69_D 21 rfl) rfl
theorem eX3_digest_106 {z0 : Int32} : WP (MX3_digest g) Q (106, [l0, l1, l2, l3, l4, l5], .int z0 :: .ref p :: st, w, k, n) = (go (rd g w p) 7 (fun _ => True) ∧ wt st ≤ 8 ∧ k + 0 ≤ 90 ∧ n + 0 ≤ 520 ∧ WP (MX3_isBare g) (kx (fun v w' => WP (MX3_digest g) Q (109, [l0, l1, l2, l3, l4, l5], v.toList ++ st, w', k + 0, n + 0)) (fun E w' => Q (.inr E) w')) (0, [some (.ref p), some (.int z0)], [], w, 0, 0)) := csV0 (M := (MX3_digest g)) (mc := (fun _ _ => 0)) (ms := (fun _ _ => 0)) (As := [.int z0]) (rest := st) (MX3_isBare g) rfl rfl rfl (dt_q dX3_digest_69_D 22 rfl) rfl rfl rfl rfl rfl rfl
theorem eX3_digest_109 : WP (MX3_digest g) Q (109, [l0, l1, l2, l3, l4, l5], .int a :: st, w, k, n) = if a = 0 then WP (MX3_digest g) Q (112, [l0, l1, l2, l3, l4, l5], st, w, k, n) else WP (MX3_digest g) Q (116, [l0, l1, l2, l3, l4, l5], st, w, k, n) := ifcn_e (a = 0) rfl (dt_q dX3_digest_69_D 23 rfl) rfl (by decide)
theorem eX3_digest_112 : WP (MX3_digest g) Q (112, [l0, l1, l2, l3, l4, l5], st, w, k, n) = WP (MX3_digest g) Q (113, [l0, l1, l2, l3, l4, l5], .int 1 :: st, w, k, n) := ic_1 rfl (dt_q dX3_digest_69_D 24 rfl)
theorem eX3_digest_113 : WP (MX3_digest g) Q (113, [l0, l1, l2, l3, l4, l5], st, w, k, n) = WP (MX3_digest g) Q (117, [l0, l1, l2, l3, l4, l5], st, w, k, n) := goto_e rfl (dt_q dX3_digest_69_D 25 rfl) (by decide)
theorem eX3_digest_116 : WP (MX3_digest g) Q (116, [l0, l1, l2, l3, l4, l5], st, w, k, n) = WP (MX3_digest g) Q (117, [l0, l1, l2, l3, l4, l5], .int 0 :: st, w, k, n) := ic_0 rfl (dt_q dX3_digest_69_D 26 rfl)
theorem eX3_digest_117 {z0 : Int32} : WP (MX3_digest g) Q (117, [l0, l1, l2, l3, l4, l5], .int z0 :: st, w, k, n) = (wt st ≤ 8 ∧ k + 0 ≤ 90 ∧ n + 0 ≤ 520 ∧ WP (MX3_one g) (kx (fun v w' => WP (MX3_digest g) Q (120, [l0, l1, l2, l3, l4, l5], v.toList ++ st, w', k + 0, n + 0)) (fun E w' => Q (.inr E) w')) (0, [some (.int z0)], [], w, 0, 0)) := csS0 (M := (MX3_digest g)) (mc := (fun _ _ => 0)) (ms := (fun _ _ => 0)) (As := [.int z0]) (rest := st) (MX3_one g) rfl rfl rfl (dt_q dX3_digest_69_D 27 rfl) rfl rfl rfl rfl rfl rfl rfl
theorem eX3_digest_120 : WP (MX3_digest g) Q (120, [l0, l1, l2, l3, l4, l5], .int a :: st, w, k, n) = WP (MX3_digest g) Q (121, [l0, l1, l2, l3, l4, l5], .long a.toInt64 :: st, w, k, n) := i2l_e rfl (dt_q dX3_digest_69_D 28 rfl)
theorem eX3_digest_121 {z0 : Int64} {z1 : Int64} : WP (MX3_digest g) Q (121, [l0, l1, l2, l3, l4, l5], .long z1 :: .long z0 :: st, w, k, n) = (wt st ≤ 8 ∧ k + 0 ≤ 90 ∧ n + 0 ≤ 520 ∧ WP (MX3_add g) (kx (fun v w' => WP (MX3_digest g) Q (124, [l0, l1, l2, l3, l4, l5], v.toList ++ st, w', k + 0, n + 0)) (fun E w' => Q (.inr E) w')) (0, [some (.long z0), none, some (.long z1), none], [], w, 0, 0)) := csS0 (M := (MX3_digest g)) (mc := (fun _ _ => 0)) (ms := (fun _ _ => 0)) (As := [.long z0, .long z1]) (rest := st) (MX3_add g) rfl rfl rfl (dt_q dX3_digest_69_D 29 rfl) rfl rfl rfl rfl rfl rfl rfl
theorem eX3_digest_124 : WP (MX3_digest g) Q (124, [l0, l1, l2, l3, l4, l5], .long x :: st, w, k, n) = WP (MX3_digest g) Q (125, [nl l0, some (.long x), none, l3, l4, l5], st, w, k, n) := lsn_e rfl (dt_q dX3_digest_69_D 30 rfl) rfl rfl
theorem eX3_digest_125 : WP (MX3_digest g) Q (125, [some (.ref p), l1, l2, l3, l4, l5], st, w, k, n) = WP (MX3_digest g) Q (126, [some (.ref p), l1, l2, l3, l4, l5], .ref p :: st, w, k, n) := alnR_e rfl (dt_q dX3_digest_69_D 31 rfl) rfl
theorem eX3_digest_125N : WP (MX3_digest g) Q (125, [some .null, l1, l2, l3, l4, l5], st, w, k, n) = WP (MX3_digest g) Q (126, [some .null, l1, l2, l3, l4, l5], .null :: st, w, k, n) := alnN_e rfl (dt_q dX3_digest_69_D 31 rfl) rfl
theorem eX3_digest_126 : WP (MX3_digest g) Q (126, [l0, l1, l2, some (.int a), l4, l5], st, w, k, n) = WP (MX3_digest g) Q (127, [l0, l1, l2, some (.int a), l4, l5], .int a :: st, w, k, n) := iln_e rfl (dt_q dX3_digest_69_D 32 rfl) rfl
theorem eX3_digest_127 {z0 : Int32} : WP (MX3_digest g) Q (127, [l0, l1, l2, l3, l4, l5], .int z0 :: .ref p :: st, w, k, n) = (go (rd g w p) 7 (fun _ => True) ∧ wt st ≤ 8 ∧ k + 0 ≤ 90 ∧ n + 0 ≤ 520 ∧ WP (MX3_isBare g) (kx (fun v w' => WP (MX3_digest g) Q (130, [l0, l1, l2, l3, l4, l5], v.toList ++ st, w', k + 0, n + 0)) (fun E w' => Q (.inr E) w')) (0, [some (.ref p), some (.int z0)], [], w, 0, 0)) := csV0 (M := (MX3_digest g)) (mc := (fun _ _ => 0)) (ms := (fun _ _ => 0)) (As := [.int z0]) (rest := st) (MX3_isBare g) rfl rfl rfl (dt_q dX3_digest_69_D 33 rfl) rfl rfl rfl rfl rfl rfl
theorem eX3_digest_130 : WP (MX3_digest g) Q (130, [l0, l1, l2, l3, l4, l5], .int a :: st, w, k, n) = if a = 0 then WP (MX3_digest g) Q (136, [l0, l1, l2, l3, l4, l5], st, w, k, n) else WP (MX3_digest g) Q (133, [l0, l1, l2, l3, l4, l5], st, w, k, n) := ifc_e (a = 0) rfl (dt_q dX3_digest_69_D 34 rfl) rfl (by decide)
theorem eX3_digest_133 : WP (MX3_digest g) Q (133, [l0, l1, l2, l3, l4, l5], st, w, k, n) = WP (MX3_digest g) Q (308, [l0, l1, l2, l3, l4, l5], st, w, k, n) := goto_e rfl (dt_q dX3_digest_69_D 35 rfl) (by decide)
theorem eX3_digest_136 : WP (MX3_digest g) Q (136, [some (.ref p), l1, l2, l3, l4, l5], st, w, k, n) = WP (MX3_digest g) Q (137, [some (.ref p), l1, l2, l3, l4, l5], .ref p :: st, w, k, n) := alnR_e rfl (dt_q dX3_digest_69_D 36 rfl) rfl
theorem eX3_digest_136N : WP (MX3_digest g) Q (136, [some .null, l1, l2, l3, l4, l5], st, w, k, n) = WP (MX3_digest g) Q (137, [some .null, l1, l2, l3, l4, l5], .null :: st, w, k, n) := alnN_e rfl (dt_q dX3_digest_69_D 36 rfl) rfl
theorem eX3_digest_137 : WP (MX3_digest g) Q (137, [l0, l1, l2, l3, l4, l5], .ref p :: st, w, k, n) = go (rd g w p) 7 fun fs => ∃ v, fs[2]? = some v ∧ WP (MX3_digest g) Q (140, [l0, l1, l2, l3, l4, l5], v :: st, w, k, n) := get_e rfl (dt_q dX3_digest_69_D 37 rfl) rfl
theorem eX3_digest_140 : WP (MX3_digest g) Q (140, [l0, l1, l2, some (.int a), l4, l5], st, w, k, n) = WP (MX3_digest g) Q (141, [l0, l1, l2, some (.int a), l4, l5], .int a :: st, w, k, n) := iln_e rfl (dt_q dX3_digest_69_D 38 rfl) rfl
theorem eX3_digest_141 {z0 : Int32} : WP (MX3_digest g) Q (141, [l0, l1, l2, l3, l4, l5], .int z0 :: .ref p :: st, w, k, n) = (go (rd g w p) 3 (fun _ => True) ∧ wt st ≤ 8 ∧ k + 0 ≤ 90 ∧ n + 0 ≤ 520 ∧ WP (MJx4a65c_get_915e3 g) (kx (fun v w' => WP (MX3_digest g) Q (144, [l0, l1, l2, l3, l4, l5], v.toList ++ st, w', k + 0, n + 0)) (fun E w' => Q (.inr E) w')) (0, [some (.ref p), some (.int z0)], [], w, 0, 0)) := csV0 (M := (MX3_digest g)) (mc := (fun _ _ => 0)) (ms := (fun _ _ => 0)) (As := [.int z0]) (rest := st) (MJx4a65c_get_915e3 g) rfl rfl rfl (dt_q dX3_digest_69_D 39 rfl) rfl rfl rfl rfl rfl rfl
theorem eX3_digest_144N : WP (MX3_digest g) Q (144, [l0, l1, l2, l3, l4, l5], .null :: st, w, k, n) = WP (MX3_digest g) Q (147, [l0, l1, l2, l3, l4, l5], .null :: st, w, k, n) := castN_e rfl (dt_q dX3_digest_144_D 0 rfl)
theorem eX3_digest_144R : WP (MX3_digest g) Q (144, [l0, l1, l2, l3, l4, l5], .ref p :: st, w, k, n) = ((∃ x, w p = some (.inl (0, x))) ∧ WP (MX3_digest g) Q (147, [l0, l1, l2, l3, l4, l5], .ref p :: st, w, k, n)) := castR_e rfl (dt_q dX3_digest_144_D 0 rfl) rfl
theorem eX3_digest_147 : WP (MX3_digest g) Q (147, [l0, l1, l2, l3, l4, l5], .ref p :: st, w, k, n) = WP (MX3_digest g) Q (149, [l0, l1, l2, nl l3, some (.ref p), l5], st, w, k, n) := asR_e rfl (dt_q dX3_digest_144_D 1 rfl) rfl rfl
theorem eX3_digest_147N : WP (MX3_digest g) Q (147, [l0, l1, l2, l3, l4, l5], .null :: st, w, k, n) = WP (MX3_digest g) Q (149, [l0, l1, l2, nl l3, some (.null), l5], st, w, k, n) := asN_e rfl (dt_q dX3_digest_144_D 1 rfl) rfl rfl
theorem eX3_digest_149 : WP (MX3_digest g) Q (149, [l0, l1, l2, l3, l4, l5], st, w, k, n) = WP (MX3_digest g) Q (150, [l0, l1, l2, l3, l4, l5], .int 0 :: st, w, k, n) := ic_0 rfl (dt_q dX3_digest_144_D 2 rfl)
theorem eX3_digest_150 : WP (MX3_digest g) Q (150, [l0, l1, l2, l3, l4, l5], .int a :: st, w, k, n) = WP (MX3_digest g) Q (152, [l0, l1, l2, l3, nl l4, some (.int a)], st, w, k, n) := is_e rfl (dt_q dX3_digest_144_D 3 rfl) rfl rfl
theorem eX3_digest_152 : WP (MX3_digest g) Q (152, [l0, l1, l2, l3, l4, some (.int a)], st, w, k, n) = WP (MX3_digest g) Q (154, [l0, l1, l2, l3, l4, some (.int a)], .int a :: st, w, k, n) := il_e rfl (dt_q dX3_digest_144_D 4 rfl) rfl
theorem eX3_digest_154 : WP (MX3_digest g) Q (154, [l0, l1, l2, l3, l4, l5], st, w, k, n) = WP (MX3_digest g) Q (155, [l0, l1, l2, l3, l4, l5], .int 4 :: st, w, k, n) := ic_4 rfl (dt_q dX3_digest_144_D 5 rfl)
theorem eX3_digest_155 : WP (MX3_digest g) Q (155, [l0, l1, l2, l3, l4, l5], .int b :: .int a :: st, w, k, n) = if b ≤ a then WP (MX3_digest g) Q (214, [l0, l1, l2, l3, l4, l5], st, w, k, n) else WP (MX3_digest g) Q (158, [l0, l1, l2, l3, l4, l5], st, w, k, n) := icm_e (b ≤ a) rfl (dt_q dX3_digest_144_D 6 rfl) rfl (by decide)
theorem eX3_digest_158 : WP (MX3_digest g) Q (158, [l0, some (.long x), l2, l3, l4, l5], st, w, k, n) = WP (MX3_digest g) Q (159, [l0, some (.long x), l2, l3, l4, l5], .long x :: st, w, k, n) := lln_e rfl (dt_q dX3_digest_144_D 7 rfl) rfl
theorem eX3_digest_159 : WP (MX3_digest g) Q (159, [l0, l1, l2, l3, some (.ref p), l5], st, w, k, n) = WP (MX3_digest g) Q (161, [l0, l1, l2, l3, some (.ref p), l5], .ref p :: st, w, k, n) := alR_e rfl (dt_q dX3_digest_144_D 8 rfl) rfl
theorem eX3_digest_159N : WP (MX3_digest g) Q (159, [l0, l1, l2, l3, some .null, l5], st, w, k, n) = WP (MX3_digest g) Q (161, [l0, l1, l2, l3, some .null, l5], .null :: st, w, k, n) := alN_e rfl (dt_q dX3_digest_144_D 8 rfl) rfl
theorem eX3_digest_161 : WP (MX3_digest g) Q (161, [l0, l1, l2, l3, l4, some (.int a)], st, w, k, n) = WP (MX3_digest g) Q (163, [l0, l1, l2, l3, l4, some (.int a)], .int a :: st, w, k, n) := il_e rfl (dt_q dX3_digest_144_D 9 rfl) rfl
theorem eX3_digest_163 : WP (MX3_digest g) Q (163, [l0, l1, l2, l3, l4, l5], .int a :: .ref p :: st, w, k, n) = gl (rd g w p) 0 fun N f => vp_in a N ∧ WP (MX3_digest g) Q (164, [l0, l1, l2, l3, l4, l5], .long (f a.toNatClampNeg) :: st, w, k, n) := laload_e rfl (dt_q dX3_digest_144_D 10 rfl)
theorem eX3_digest_164 {z0 : Int64} : WP (MX3_digest g) Q (164, [l0, l1, l2, l3, l4, l5], .long z0 :: st, w, k, n) = (wt st ≤ 8 ∧ k + 0 ≤ 90 ∧ n + 0 ≤ 520 ∧ WP (MX3_high g) (kx (fun v w' => WP (MX3_digest g) Q (167, [l0, l1, l2, l3, l4, l5], v.toList ++ st, w', k + 0, n + 0)) (fun E w' => Q (.inr E) w')) (0, [some (.long z0), none], [], w, 0, 0)) := csS0 (M := (MX3_digest g)) (mc := (fun _ _ => 0)) (ms := (fun _ _ => 0)) (As := [.long z0]) (rest := st) (MX3_high g) rfl rfl rfl (dt_q dX3_digest_144_D 11 rfl) rfl rfl rfl rfl rfl rfl rfl
theorem eX3_digest_167 : WP (MX3_digest g) Q (167, [l0, l1, l2, l3, l4, l5], .int a :: st, w, k, n) = WP (MX3_digest g) Q (168, [l0, l1, l2, l3, l4, l5], .long a.toInt64 :: st, w, k, n) := i2l_e rfl (dt_q dX3_digest_144_D 12 rfl)
theorem eX3_digest_168 {z0 : Int64} {z1 : Int64} : WP (MX3_digest g) Q (168, [l0, l1, l2, l3, l4, l5], .long z1 :: .long z0 :: st, w, k, n) = (wt st ≤ 8 ∧ k + 0 ≤ 90 ∧ n + 0 ≤ 520 ∧ WP (MX3_add g) (kx (fun v w' => WP (MX3_digest g) Q (171, [l0, l1, l2, l3, l4, l5], v.toList ++ st, w', k + 0, n + 0)) (fun E w' => Q (.inr E) w')) (0, [some (.long z0), none, some (.long z1), none], [], w, 0, 0)) := csS0 (M := (MX3_digest g)) (mc := (fun _ _ => 0)) (ms := (fun _ _ => 0)) (As := [.long z0, .long z1]) (rest := st) (MX3_add g) rfl rfl rfl (dt_q dX3_digest_144_D 13 rfl) rfl rfl rfl rfl rfl rfl rfl
theorem eX3_digest_171 : WP (MX3_digest g) Q (171, [l0, l1, l2, l3, some (.ref p), l5], st, w, k, n) = WP (MX3_digest g) Q (173, [l0, l1, l2, l3, some (.ref p), l5], .ref p :: st, w, k, n) := alR_e rfl (dt_q dX3_digest_144_D 14 rfl) rfl
theorem eX3_digest_171N : WP (MX3_digest g) Q (171, [l0, l1, l2, l3, some .null, l5], st, w, k, n) = WP (MX3_digest g) Q (173, [l0, l1, l2, l3, some .null, l5], .null :: st, w, k, n) := alN_e rfl (dt_q dX3_digest_144_D 14 rfl) rfl
theorem eX3_digest_173 : WP (MX3_digest g) Q (173, [l0, l1, l2, l3, l4, some (.int a)], st, w, k, n) = WP (MX3_digest g) Q (175, [l0, l1, l2, l3, l4, some (.int a)], .int a :: st, w, k, n) := il_e rfl (dt_q dX3_digest_144_D 15 rfl) rfl
theorem eX3_digest_175 : WP (MX3_digest g) Q (175, [l0, l1, l2, l3, l4, l5], .int a :: .ref p :: st, w, k, n) = gl (rd g w p) 0 fun N f => vp_in a N ∧ WP (MX3_digest g) Q (176, [l0, l1, l2, l3, l4, l5], .long (f a.toNatClampNeg) :: st, w, k, n) := laload_e rfl (dt_q dX3_digest_144_D 16 rfl)
theorem eX3_digest_176 {z0 : Int64} : WP (MX3_digest g) Q (176, [l0, l1, l2, l3, l4, l5], .long z0 :: st, w, k, n) = (wt st ≤ 8 ∧ k + 0 ≤ 90 ∧ n + 0 ≤ 520 ∧ WP (MX3_low g) (kx (fun v w' => WP (MX3_digest g) Q (179, [l0, l1, l2, l3, l4, l5], v.toList ++ st, w', k + 0, n + 0)) (fun E w' => Q (.inr E) w')) (0, [some (.long z0), none, none, none], [], w, 0, 0)) := csS0 (M := (MX3_digest g)) (mc := (fun _ _ => 0)) (ms := (fun _ _ => 0)) (As := [.long z0]) (rest := st) (MX3_low g) rfl rfl rfl (dt_q dX3_digest_144_D 17 rfl) rfl rfl rfl rfl rfl rfl rfl
theorem eX3_digest_179 : WP (MX3_digest g) Q (179, [l0, l1, l2, l3, l4, l5], .int a :: st, w, k, n) = WP (MX3_digest g) Q (180, [l0, l1, l2, l3, l4, l5], .long a.toInt64 :: st, w, k, n) := i2l_e rfl (dt_q dX3_digest_144_D 18 rfl)
theorem eX3_digest_180 {z0 : Int64} {z1 : Int64} : WP (MX3_digest g) Q (180, [l0, l1, l2, l3, l4, l5], .long z1 :: .long z0 :: st, w, k, n) = (wt st ≤ 8 ∧ k + 0 ≤ 90 ∧ n + 0 ≤ 520 ∧ WP (MX3_add g) (kx (fun v w' => WP (MX3_digest g) Q (183, [l0, l1, l2, l3, l4, l5], v.toList ++ st, w', k + 0, n + 0)) (fun E w' => Q (.inr E) w')) (0, [some (.long z0), none, some (.long z1), none], [], w, 0, 0)) := csS0 (M := (MX3_digest g)) (mc := (fun _ _ => 0)) (ms := (fun _ _ => 0)) (As := [.long z0, .long z1]) (rest := st) (MX3_add g) rfl rfl rfl (dt_q dX3_digest_144_D 19 rfl) rfl rfl rfl rfl rfl rfl rfl
theorem eX3_digest_183 : WP (MX3_digest g) Q (183, [l0, l1, l2, l3, some (.ref p), l5], st, w, k, n) = WP (MX3_digest g) Q (185, [l0, l1, l2, l3, some (.ref p), l5], .ref p :: st, w, k, n) := alR_e rfl (dt_q dX3_digest_144_D 20 rfl) rfl
theorem eX3_digest_183N : WP (MX3_digest g) Q (183, [l0, l1, l2, l3, some .null, l5], st, w, k, n) = WP (MX3_digest g) Q (185, [l0, l1, l2, l3, some .null, l5], .null :: st, w, k, n) := alN_e rfl (dt_q dX3_digest_144_D 20 rfl) rfl
theorem eX3_digest_185 : WP (MX3_digest g) Q (185, [l0, l1, l2, l3, l4, some (.int a)], st, w, k, n) = WP (MX3_digest g) Q (187, [l0, l1, l2, l3, l4, some (.int a)], .int a :: st, w, k, n) := il_e rfl (dt_q dX3_digest_144_D 21 rfl) rfl
theorem eX3_digest_187 : WP (MX3_digest g) Q (187, [l0, l1, l2, l3, l4, l5], st, w, k, n) = WP (MX3_digest g) Q (188, [l0, l1, l2, l3, l4, l5], .int 0 :: st, w, k, n) := ic_0 rfl (dt_q dX3_digest_144_D 22 rfl)
theorem eX3_digest_188R {z0 : Nat} {z1 : Int32} {z2 : Int32} : WP (MX3_digest g) Q (188, [l0, l1, l2, l3, l4, l5], .int z2 :: .int z1 :: .ref z0 :: st, w, k, n) = (wt st ≤ 8 ∧ k + 0 ≤ 90 ∧ n + 0 ≤ 520 ∧ WP (MX3_aroundNow g) (kx (fun v w' => WP (MX3_digest g) Q (191, [l0, l1, l2, l3, l4, l5], v.toList ++ st, w', k + 0, n + 0)) (fun E w' => Q (.inr E) w')) (0, [some (.ref z0), some (.int z1), some (.int z2), none, none], [], w, 0, 0)) := csS0 (M := (MX3_digest g)) (mc := (fun _ _ => 0)) (ms := (fun _ _ => 0)) (As := [.ref z0, .int z1, .int z2]) (rest := st) (MX3_aroundNow g) rfl rfl rfl (dt_q dX3_digest_144_D 23 rfl) rfl rfl rfl rfl rfl rfl rfl
theorem eX3_digest_188N {z1 : Int32} {z2 : Int32} : WP (MX3_digest g) Q (188, [l0, l1, l2, l3, l4, l5], .int z2 :: .int z1 :: .null :: st, w, k, n) = (wt st ≤ 8 ∧ k + 0 ≤ 90 ∧ n + 0 ≤ 520 ∧ WP (MX3_aroundNow g) (kx (fun v w' => WP (MX3_digest g) Q (191, [l0, l1, l2, l3, l4, l5], v.toList ++ st, w', k + 0, n + 0)) (fun E w' => Q (.inr E) w')) (0, [some .null, some (.int z1), some (.int z2), none, none], [], w, 0, 0)) := csS0 (M := (MX3_digest g)) (mc := (fun _ _ => 0)) (ms := (fun _ _ => 0)) (As := [.null, .int z1, .int z2]) (rest := st) (MX3_aroundNow g) rfl rfl rfl (dt_q dX3_digest_144_D 23 rfl) rfl rfl rfl rfl rfl rfl rfl
theorem eX3_digest_191 : WP (MX3_digest g) Q (191, [l0, l1, l2, l3, l4, l5], .int a :: st, w, k, n) = WP (MX3_digest g) Q (192, [l0, l1, l2, l3, l4, l5], .long a.toInt64 :: st, w, k, n) := i2l_e rfl (dt_q dX3_digest_144_D 24 rfl)
theorem eX3_digest_192 {z0 : Int64} {z1 : Int64} : WP (MX3_digest g) Q (192, [l0, l1, l2, l3, l4, l5], .long z1 :: .long z0 :: st, w, k, n) = (wt st ≤ 8 ∧ k + 0 ≤ 90 ∧ n + 0 ≤ 520 ∧ WP (MX3_add g) (kx (fun v w' => WP (MX3_digest g) Q (195, [l0, l1, l2, l3, l4, l5], v.toList ++ st, w', k + 0, n + 0)) (fun E w' => Q (.inr E) w')) (0, [some (.long z0), none, some (.long z1), none], [], w, 0, 0)) := csS0 (M := (MX3_digest g)) (mc := (fun _ _ => 0)) (ms := (fun _ _ => 0)) (As := [.long z0, .long z1]) (rest := st) (MX3_add g) rfl rfl rfl (dt_q dX3_digest_144_D 25 rfl) rfl rfl rfl rfl rfl rfl rfl
theorem eX3_digest_195 : WP (MX3_digest g) Q (195, [l0, l1, l2, l3, some (.ref p), l5], st, w, k, n) = WP (MX3_digest g) Q (197, [l0, l1, l2, l3, some (.ref p), l5], .ref p :: st, w, k, n) := alR_e rfl (dt_q dX3_digest_144_D 26 rfl) rfl
theorem eX3_digest_195N : WP (MX3_digest g) Q (195, [l0, l1, l2, l3, some .null, l5], st, w, k, n) = WP (MX3_digest g) Q (197, [l0, l1, l2, l3, some .null, l5], .null :: st, w, k, n) := alN_e rfl (dt_q dX3_digest_144_D 26 rfl) rfl
theorem eX3_digest_197 : WP (MX3_digest g) Q (197, [l0, l1, l2, l3, l4, some (.int a)], st, w, k, n) = WP (MX3_digest g) Q (199, [l0, l1, l2, l3, l4, some (.int a)], .int a :: st, w, k, n) := il_e rfl (dt_q dX3_digest_144_D 27 rfl) rfl
theorem eX3_digest_199 : WP (MX3_digest g) Q (199, [l0, l1, l2, l3, l4, l5], st, w, k, n) = WP (MX3_digest g) Q (200, [l0, l1, l2, l3, l4, l5], .int 1 :: st, w, k, n) := ic_1 rfl (dt_q dX3_digest_144_D 28 rfl)
theorem eX3_digest_200R {z0 : Nat} {z1 : Int32} {z2 : Int32} : WP (MX3_digest g) Q (200, [l0, l1, l2, l3, l4, l5], .int z2 :: .int z1 :: .ref z0 :: st, w, k, n) = (wt st ≤ 8 ∧ k + 0 ≤ 90 ∧ n + 0 ≤ 520 ∧ WP (MX3_aroundNow g) (kx (fun v w' => WP (MX3_digest g) Q (203, [l0, l1, l2, l3, l4, l5], v.toList ++ st, w', k + 0, n + 0)) (fun E w' => Q (.inr E) w')) (0, [some (.ref z0), some (.int z1), some (.int z2), none, none], [], w, 0, 0)) := csS0 (M := (MX3_digest g)) (mc := (fun _ _ => 0)) (ms := (fun _ _ => 0)) (As := [.ref z0, .int z1, .int z2]) (rest := st) (MX3_aroundNow g) rfl rfl rfl (dt_q dX3_digest_144_D 29 rfl) rfl rfl rfl rfl rfl rfl rfl
theorem eX3_digest_200N {z1 : Int32} {z2 : Int32} : WP (MX3_digest g) Q (200, [l0, l1, l2, l3, l4, l5], .int z2 :: .int z1 :: .null :: st, w, k, n) = (wt st ≤ 8 ∧ k + 0 ≤ 90 ∧ n + 0 ≤ 520 ∧ WP (MX3_aroundNow g) (kx (fun v w' => WP (MX3_digest g) Q (203, [l0, l1, l2, l3, l4, l5], v.toList ++ st, w', k + 0, n + 0)) (fun E w' => Q (.inr E) w')) (0, [some .null, some (.int z1), some (.int z2), none, none], [], w, 0, 0)) := csS0 (M := (MX3_digest g)) (mc := (fun _ _ => 0)) (ms := (fun _ _ => 0)) (As := [.null, .int z1, .int z2]) (rest := st) (MX3_aroundNow g) rfl rfl rfl (dt_q dX3_digest_144_D 29 rfl) rfl rfl rfl rfl rfl rfl rfl
theorem eX3_digest_203 : WP (MX3_digest g) Q (203, [l0, l1, l2, l3, l4, l5], .int a :: st, w, k, n) = WP (MX3_digest g) Q (204, [l0, l1, l2, l3, l4, l5], .long a.toInt64 :: st, w, k, n) := i2l_e rfl (dt_q dX3_digest_144_D 30 rfl)
theorem eX3_digest_204 {z0 : Int64} {z1 : Int64} : WP (MX3_digest g) Q (204, [l0, l1, l2, l3, l4, l5], .long z1 :: .long z0 :: st, w, k, n) = (wt st ≤ 8 ∧ k + 0 ≤ 90 ∧ n + 0 ≤ 520 ∧ WP (MX3_add g) (kx (fun v w' => WP (MX3_digest g) Q (207, [l0, l1, l2, l3, l4, l5], v.toList ++ st, w', k + 0, n + 0)) (fun E w' => Q (.inr E) w')) (0, [some (.long z0), none, some (.long z1), none], [], w, 0, 0)) := csS0 (M := (MX3_digest g)) (mc := (fun _ _ => 0)) (ms := (fun _ _ => 0)) (As := [.long z0, .long z1]) (rest := st) (MX3_add g) rfl rfl rfl (dt_q dX3_digest_144_D 31 rfl) rfl rfl rfl rfl rfl rfl rfl
theorem eX3_digest_207 : WP (MX3_digest g) Q (207, [l0, l1, l2, l3, l4, l5], .long x :: st, w, k, n) = WP (MX3_digest g) Q (208, [nl l0, some (.long x), none, l3, l4, l5], st, w, k, n) := lsn_e rfl (dt_q dX3_digest_144_D 32 rfl) rfl rfl
theorem eX3_digest_208 : WP (MX3_digest g) Q (208, [l0, l1, l2, l3, l4, some (.int a)], st, w, k, n) = WP (MX3_digest g) Q (211, [l0, l1, l2, l3, nl l4, some (.int (a + 1))], st, w, k, n) := Eq.trans (iinc_e (M := (MX3_digest g)) (L := [l0, l1, l2, l3, l4, some (.int a)]) (d := 1) rfl (dt_q dX3_digest_144_D 33 rfl) (by decide) rfl) rfl
theorem eX3_digest_211 : WP (MX3_digest g) Q (211, [l0, l1, l2, l3, l4, l5], st, w, k, n) = WP (MX3_digest g) Q (152, [l0, l1, l2, l3, l4, l5], st, w, k, n) := goto_e rfl (dt_q dX3_digest_144_D 34 rfl) (by decide)
theorem eX3_digest_214 : WP (MX3_digest g) Q (214, [l0, some (.long x), l2, l3, l4, l5], st, w, k, n) = WP (MX3_digest g) Q (215, [l0, some (.long x), l2, l3, l4, l5], .long x :: st, w, k, n) := lln_e rfl (dt_q dX3_digest_144_D 35 rfl) rfl
theorem eX3_digest_215 : WP (MX3_digest g) Q (215, [l0, l1, l2, l3, some (.ref p), l5], st, w, k, n) = WP (MX3_digest g) Q (217, [l0, l1, l2, l3, some (.ref p), l5], .ref p :: st, w, k, n) := alR_e rfl (dt_q dX3_digest_144_D 36 rfl) rfl
theorem eX3_digest_215N : WP (MX3_digest g) Q (215, [l0, l1, l2, l3, some .null, l5], st, w, k, n) = WP (MX3_digest g) Q (217, [l0, l1, l2, l3, some .null, l5], .null :: st, w, k, n) := alN_e rfl (dt_q dX3_digest_144_D 36 rfl) rfl
theorem eX3_digest_217R {z0 : Nat} : WP (MX3_digest g) Q (217, [l0, l1, l2, l3, l4, l5], .ref z0 :: st, w, k, n) = (wt st ≤ 8 ∧ k + 0 ≤ 90 ∧ n + 0 ≤ 520 ∧ WP (MX3_fixed g) (kx (fun v w' => WP (MX3_digest g) Q (220, [l0, l1, l2, l3, l4, l5], v.toList ++ st, w', k + 0, n + 0)) (fun E w' => Q (.inr E) w')) (0, [some (.ref z0)], [], w, 0, 0)) := csS0 (M := (MX3_digest g)) (mc := (fun _ _ => 0)) (ms := (fun _ _ => 0)) (As := [.ref z0]) (rest := st) (MX3_fixed g) rfl rfl rfl (dt_q dX3_digest_144_D 37 rfl) rfl rfl rfl rfl rfl rfl rfl
theorem eX3_digest_217N  : WP (MX3_digest g) Q (217, [l0, l1, l2, l3, l4, l5], .null :: st, w, k, n) = (wt st ≤ 8 ∧ k + 0 ≤ 90 ∧ n + 0 ≤ 520 ∧ WP (MX3_fixed g) (kx (fun v w' => WP (MX3_digest g) Q (220, [l0, l1, l2, l3, l4, l5], v.toList ++ st, w', k + 0, n + 0)) (fun E w' => Q (.inr E) w')) (0, [some .null], [], w, 0, 0)) := csS0 (M := (MX3_digest g)) (mc := (fun _ _ => 0)) (ms := (fun _ _ => 0)) (As := [.null]) (rest := st) (MX3_fixed g) rfl rfl rfl (dt_q dX3_digest_144_D 37 rfl) rfl rfl rfl rfl rfl rfl rfl
theorem eX3_digest_220 {z0 : Int32} : WP (MX3_digest g) Q (220, [l0, l1, l2, l3, l4, l5], .int z0 :: st, w, k, n) = (wt st ≤ 8 ∧ k + 0 ≤ 90 ∧ n + 0 ≤ 520 ∧ WP (MX3_one g) (kx (fun v w' => WP (MX3_digest g) Q (223, [l0, l1, l2, l3, l4, l5], v.toList ++ st, w', k + 0, n + 0)) (fun E w' => Q (.inr E) w')) (0, [some (.int z0)], [], w, 0, 0)) := csS0 (M := (MX3_digest g)) (mc := (fun _ _ => 0)) (ms := (fun _ _ => 0)) (As := [.int z0]) (rest := st) (MX3_one g) rfl rfl rfl (dt_q dX3_digest_144_D 38 rfl) rfl rfl rfl rfl rfl rfl rfl
theorem eX3_digest_223 : WP (MX3_digest g) Q (223, [l0, l1, l2, l3, l4, l5], .int a :: st, w, k, n) = WP (MX3_digest g) Q (224, [l0, l1, l2, l3, l4, l5], .long a.toInt64 :: st, w, k, n) := i2l_e rfl (dt_q dX3_digest_144_D 39 rfl)
theorem eX3_digest_224 {z0 : Int64} {z1 : Int64} : WP (MX3_digest g) Q (224, [l0, l1, l2, l3, l4, l5], .long z1 :: .long z0 :: st, w, k, n) = (wt st ≤ 8 ∧ k + 0 ≤ 90 ∧ n + 0 ≤ 520 ∧ WP (MX3_add g) (kx (fun v w' => WP (MX3_digest g) Q (227, [l0, l1, l2, l3, l4, l5], v.toList ++ st, w', k + 0, n + 0)) (fun E w' => Q (.inr E) w')) (0, [some (.long z0), none, some (.long z1), none], [], w, 0, 0)) := csS0 (M := (MX3_digest g)) (mc := (fun _ _ => 0)) (ms := (fun _ _ => 0)) (As := [.long z0, .long z1]) (rest := st) (MX3_add g) rfl rfl rfl (dt_q dX3_digest_224_D 0 rfl) rfl rfl rfl rfl rfl rfl rfl
theorem eX3_digest_227 : WP (MX3_digest g) Q (227, [l0, l1, l2, l3, some (.ref p), l5], st, w, k, n) = WP (MX3_digest g) Q (229, [l0, l1, l2, l3, some (.ref p), l5], .ref p :: st, w, k, n) := alR_e rfl (dt_q dX3_digest_224_D 1 rfl) rfl
theorem eX3_digest_227N : WP (MX3_digest g) Q (227, [l0, l1, l2, l3, some .null, l5], st, w, k, n) = WP (MX3_digest g) Q (229, [l0, l1, l2, l3, some .null, l5], .null :: st, w, k, n) := alN_e rfl (dt_q dX3_digest_224_D 1 rfl) rfl
theorem eX3_digest_229R {z0 : Nat} : WP (MX3_digest g) Q (229, [l0, l1, l2, l3, l4, l5], .ref z0 :: st, w, k, n) = (wt st ≤ 8 ∧ k + 0 ≤ 90 ∧ n + 0 ≤ 520 ∧ WP (MX3_small g) (kx (fun v w' => WP (MX3_digest g) Q (232, [l0, l1, l2, l3, l4, l5], v.toList ++ st, w', k + 0, n + 0)) (fun E w' => Q (.inr E) w')) (0, [some (.ref z0)], [], w, 0, 0)) := csS0 (M := (MX3_digest g)) (mc := (fun _ _ => 0)) (ms := (fun _ _ => 0)) (As := [.ref z0]) (rest := st) (MX3_small g) rfl rfl rfl (dt_q dX3_digest_224_D 2 rfl) rfl rfl rfl rfl rfl rfl rfl
theorem eX3_digest_229N  : WP (MX3_digest g) Q (229, [l0, l1, l2, l3, l4, l5], .null :: st, w, k, n) = (wt st ≤ 8 ∧ k + 0 ≤ 90 ∧ n + 0 ≤ 520 ∧ WP (MX3_small g) (kx (fun v w' => WP (MX3_digest g) Q (232, [l0, l1, l2, l3, l4, l5], v.toList ++ st, w', k + 0, n + 0)) (fun E w' => Q (.inr E) w')) (0, [some .null], [], w, 0, 0)) := csS0 (M := (MX3_digest g)) (mc := (fun _ _ => 0)) (ms := (fun _ _ => 0)) (As := [.null]) (rest := st) (MX3_small g) rfl rfl rfl (dt_q dX3_digest_224_D 2 rfl) rfl rfl rfl rfl rfl rfl rfl
theorem eX3_digest_232 {z0 : Int32} : WP (MX3_digest g) Q (232, [l0, l1, l2, l3, l4, l5], .int z0 :: st, w, k, n) = (wt st ≤ 8 ∧ k + 0 ≤ 90 ∧ n + 0 ≤ 520 ∧ WP (MX3_one g) (kx (fun v w' => WP (MX3_digest g) Q (235, [l0, l1, l2, l3, l4, l5], v.toList ++ st, w', k + 0, n + 0)) (fun E w' => Q (.inr E) w')) (0, [some (.int z0)], [], w, 0, 0)) := csS0 (M := (MX3_digest g)) (mc := (fun _ _ => 0)) (ms := (fun _ _ => 0)) (As := [.int z0]) (rest := st) (MX3_one g) rfl rfl rfl (dt_q dX3_digest_224_D 3 rfl) rfl rfl rfl rfl rfl rfl rfl
theorem eX3_digest_235 : WP (MX3_digest g) Q (235, [l0, l1, l2, l3, l4, l5], .int a :: st, w, k, n) = WP (MX3_digest g) Q (236, [l0, l1, l2, l3, l4, l5], .long a.toInt64 :: st, w, k, n) := i2l_e rfl (dt_q dX3_digest_224_D 4 rfl)
theorem eX3_digest_236 {z0 : Int64} {z1 : Int64} : WP (MX3_digest g) Q (236, [l0, l1, l2, l3, l4, l5], .long z1 :: .long z0 :: st, w, k, n) = (wt st ≤ 8 ∧ k + 0 ≤ 90 ∧ n + 0 ≤ 520 ∧ WP (MX3_add g) (kx (fun v w' => WP (MX3_digest g) Q (239, [l0, l1, l2, l3, l4, l5], v.toList ++ st, w', k + 0, n + 0)) (fun E w' => Q (.inr E) w')) (0, [some (.long z0), none, some (.long z1), none], [], w, 0, 0)) := csS0 (M := (MX3_digest g)) (mc := (fun _ _ => 0)) (ms := (fun _ _ => 0)) (As := [.long z0, .long z1]) (rest := st) (MX3_add g) rfl rfl rfl (dt_q dX3_digest_224_D 5 rfl) rfl rfl rfl rfl rfl rfl rfl
theorem eX3_digest_239 : WP (MX3_digest g) Q (239, [some (.ref p), l1, l2, l3, l4, l5], st, w, k, n) = WP (MX3_digest g) Q (240, [some (.ref p), l1, l2, l3, l4, l5], .ref p :: st, w, k, n) := alnR_e rfl (dt_q dX3_digest_224_D 6 rfl) rfl
theorem eX3_digest_239N : WP (MX3_digest g) Q (239, [some .null, l1, l2, l3, l4, l5], st, w, k, n) = WP (MX3_digest g) Q (240, [some .null, l1, l2, l3, l4, l5], .null :: st, w, k, n) := alnN_e rfl (dt_q dX3_digest_224_D 6 rfl) rfl
theorem eX3_digest_240 : WP (MX3_digest g) Q (240, [l0, l1, l2, some (.int a), l4, l5], st, w, k, n) = WP (MX3_digest g) Q (241, [l0, l1, l2, some (.int a), l4, l5], .int a :: st, w, k, n) := iln_e rfl (dt_q dX3_digest_224_D 7 rfl) rfl
theorem eX3_digest_241 {z0 : Int32} : WP (MX3_digest g) Q (241, [l0, l1, l2, l3, l4, l5], .int z0 :: .ref p :: st, w, k, n) = (go (rd g w p) 7 (fun _ => True) ∧ wt st ≤ 8 ∧ k + 0 ≤ 90 ∧ n + 0 ≤ 520 ∧ WP (MX3_likesNow g) (kx (fun v w' => WP (MX3_digest g) Q (244, [l0, l1, l2, l3, l4, l5], v.toList ++ st, w', k + 0, n + 0)) (fun E w' => Q (.inr E) w')) (0, [some (.ref p), some (.int z0), none, none], [], w, 0, 0)) := csV0 (M := (MX3_digest g)) (mc := (fun _ _ => 0)) (ms := (fun _ _ => 0)) (As := [.int z0]) (rest := st) (MX3_likesNow g) rfl rfl rfl (dt_q dX3_digest_224_D 8 rfl) rfl rfl rfl rfl rfl rfl
theorem eX3_digest_244 : WP (MX3_digest g) Q (244, [l0, l1, l2, l3, l4, l5], .int a :: st, w, k, n) = WP (MX3_digest g) Q (245, [l0, l1, l2, l3, l4, l5], .long a.toInt64 :: st, w, k, n) := i2l_e rfl (dt_q dX3_digest_224_D 9 rfl)
theorem eX3_digest_245 {z0 : Int64} {z1 : Int64} : WP (MX3_digest g) Q (245, [l0, l1, l2, l3, l4, l5], .long z1 :: .long z0 :: st, w, k, n) = (wt st ≤ 8 ∧ k + 0 ≤ 90 ∧ n + 0 ≤ 520 ∧ WP (MX3_add g) (kx (fun v w' => WP (MX3_digest g) Q (248, [l0, l1, l2, l3, l4, l5], v.toList ++ st, w', k + 0, n + 0)) (fun E w' => Q (.inr E) w')) (0, [some (.long z0), none, some (.long z1), none], [], w, 0, 0)) := csS0 (M := (MX3_digest g)) (mc := (fun _ _ => 0)) (ms := (fun _ _ => 0)) (As := [.long z0, .long z1]) (rest := st) (MX3_add g) rfl rfl rfl (dt_q dX3_digest_224_D 10 rfl) rfl rfl rfl rfl rfl rfl rfl
theorem eX3_digest_248 : WP (MX3_digest g) Q (248, [l0, l1, l2, l3, l4, l5], .long x :: st, w, k, n) = WP (MX3_digest g) Q (249, [nl l0, some (.long x), none, l3, l4, l5], st, w, k, n) := lsn_e rfl (dt_q dX3_digest_224_D 11 rfl) rfl rfl
theorem eX3_digest_249 : WP (MX3_digest g) Q (249, [l0, some (.long x), l2, l3, l4, l5], st, w, k, n) = WP (MX3_digest g) Q (250, [l0, some (.long x), l2, l3, l4, l5], .long x :: st, w, k, n) := lln_e rfl (dt_q dX3_digest_224_D 12 rfl) rfl
theorem eX3_digest_250 : WP (MX3_digest g) Q (250, [some (.ref p), l1, l2, l3, l4, l5], st, w, k, n) = WP (MX3_digest g) Q (251, [some (.ref p), l1, l2, l3, l4, l5], .ref p :: st, w, k, n) := alnR_e rfl (dt_q dX3_digest_224_D 13 rfl) rfl
theorem eX3_digest_250N : WP (MX3_digest g) Q (250, [some .null, l1, l2, l3, l4, l5], st, w, k, n) = WP (MX3_digest g) Q (251, [some .null, l1, l2, l3, l4, l5], .null :: st, w, k, n) := alnN_e rfl (dt_q dX3_digest_224_D 13 rfl) rfl
theorem eX3_digest_251 : WP (MX3_digest g) Q (251, [l0, l1, l2, some (.int a), l4, l5], st, w, k, n) = WP (MX3_digest g) Q (252, [l0, l1, l2, some (.int a), l4, l5], .int a :: st, w, k, n) := iln_e rfl (dt_q dX3_digest_224_D 14 rfl) rfl
theorem eX3_digest_252 : WP (MX3_digest g) Q (252, [l0, l1, l2, l3, l4, l5], st, w, k, n) = WP (MX3_digest g) Q (253, [l0, l1, l2, l3, l4, l5], .int 0 :: st, w, k, n) := ic_0 rfl (dt_q dX3_digest_224_D 15 rfl)
theorem eX3_digest_253 {z0 : Int32} {z1 : Int32} : WP (MX3_digest g) Q (253, [l0, l1, l2, l3, l4, l5], .int z1 :: .int z0 :: .ref p :: st, w, k, n) = (go (rd g w p) 7 (fun _ => True) ∧ wt st ≤ 8 ∧ k + 0 ≤ 90 ∧ n + 0 ≤ 520 ∧ WP (MX3_seekNow g) (kx (fun v w' => WP (MX3_digest g) Q (256, [l0, l1, l2, l3, l4, l5], v.toList ++ st, w', k + 0, n + 0)) (fun E w' => Q (.inr E) w')) (0, [some (.ref p), some (.int z0), some (.int z1), none, none], [], w, 0, 0)) := csV0 (M := (MX3_digest g)) (mc := (fun _ _ => 0)) (ms := (fun _ _ => 0)) (As := [.int z0, .int z1]) (rest := st) (MX3_seekNow g) rfl rfl rfl (dt_q dX3_digest_224_D 16 rfl) rfl rfl rfl rfl rfl rfl
theorem eX3_digest_256 : WP (MX3_digest g) Q (256, [l0, l1, l2, l3, l4, l5], .int a :: st, w, k, n) = WP (MX3_digest g) Q (257, [l0, l1, l2, l3, l4, l5], .long a.toInt64 :: st, w, k, n) := i2l_e rfl (dt_q dX3_digest_224_D 17 rfl)
theorem eX3_digest_257 {z0 : Int64} {z1 : Int64} : WP (MX3_digest g) Q (257, [l0, l1, l2, l3, l4, l5], .long z1 :: .long z0 :: st, w, k, n) = (wt st ≤ 8 ∧ k + 0 ≤ 90 ∧ n + 0 ≤ 520 ∧ WP (MX3_add g) (kx (fun v w' => WP (MX3_digest g) Q (260, [l0, l1, l2, l3, l4, l5], v.toList ++ st, w', k + 0, n + 0)) (fun E w' => Q (.inr E) w')) (0, [some (.long z0), none, some (.long z1), none], [], w, 0, 0)) := csS0 (M := (MX3_digest g)) (mc := (fun _ _ => 0)) (ms := (fun _ _ => 0)) (As := [.long z0, .long z1]) (rest := st) (MX3_add g) rfl rfl rfl (dt_q dX3_digest_224_D 18 rfl) rfl rfl rfl rfl rfl rfl rfl
theorem eX3_digest_260 : WP (MX3_digest g) Q (260, [some (.ref p), l1, l2, l3, l4, l5], st, w, k, n) = WP (MX3_digest g) Q (261, [some (.ref p), l1, l2, l3, l4, l5], .ref p :: st, w, k, n) := alnR_e rfl (dt_q dX3_digest_224_D 19 rfl) rfl
theorem eX3_digest_260N : WP (MX3_digest g) Q (260, [some .null, l1, l2, l3, l4, l5], st, w, k, n) = WP (MX3_digest g) Q (261, [some .null, l1, l2, l3, l4, l5], .null :: st, w, k, n) := alnN_e rfl (dt_q dX3_digest_224_D 19 rfl) rfl
theorem eX3_digest_261 : WP (MX3_digest g) Q (261, [l0, l1, l2, some (.int a), l4, l5], st, w, k, n) = WP (MX3_digest g) Q (262, [l0, l1, l2, some (.int a), l4, l5], .int a :: st, w, k, n) := iln_e rfl (dt_q dX3_digest_224_D 20 rfl) rfl
theorem eX3_digest_262 : WP (MX3_digest g) Q (262, [l0, l1, l2, l3, l4, l5], st, w, k, n) = WP (MX3_digest g) Q (263, [l0, l1, l2, l3, l4, l5], .int 1 :: st, w, k, n) := ic_1 rfl (dt_q dX3_digest_224_D 21 rfl)
theorem eX3_digest_263 {z0 : Int32} {z1 : Int32} : WP (MX3_digest g) Q (263, [l0, l1, l2, l3, l4, l5], .int z1 :: .int z0 :: .ref p :: st, w, k, n) = (go (rd g w p) 7 (fun _ => True) ∧ wt st ≤ 8 ∧ k + 0 ≤ 90 ∧ n + 0 ≤ 520 ∧ WP (MX3_seekNow g) (kx (fun v w' => WP (MX3_digest g) Q (266, [l0, l1, l2, l3, l4, l5], v.toList ++ st, w', k + 0, n + 0)) (fun E w' => Q (.inr E) w')) (0, [some (.ref p), some (.int z0), some (.int z1), none, none], [], w, 0, 0)) := csV0 (M := (MX3_digest g)) (mc := (fun _ _ => 0)) (ms := (fun _ _ => 0)) (As := [.int z0, .int z1]) (rest := st) (MX3_seekNow g) rfl rfl rfl (dt_q dX3_digest_224_D 22 rfl) rfl rfl rfl rfl rfl rfl
theorem eX3_digest_266 : WP (MX3_digest g) Q (266, [l0, l1, l2, l3, l4, l5], .int a :: st, w, k, n) = WP (MX3_digest g) Q (267, [l0, l1, l2, l3, l4, l5], .long a.toInt64 :: st, w, k, n) := i2l_e rfl (dt_q dX3_digest_224_D 23 rfl)
theorem eX3_digest_267 {z0 : Int64} {z1 : Int64} : WP (MX3_digest g) Q (267, [l0, l1, l2, l3, l4, l5], .long z1 :: .long z0 :: st, w, k, n) = (wt st ≤ 8 ∧ k + 0 ≤ 90 ∧ n + 0 ≤ 520 ∧ WP (MX3_add g) (kx (fun v w' => WP (MX3_digest g) Q (270, [l0, l1, l2, l3, l4, l5], v.toList ++ st, w', k + 0, n + 0)) (fun E w' => Q (.inr E) w')) (0, [some (.long z0), none, some (.long z1), none], [], w, 0, 0)) := csS0 (M := (MX3_digest g)) (mc := (fun _ _ => 0)) (ms := (fun _ _ => 0)) (As := [.long z0, .long z1]) (rest := st) (MX3_add g) rfl rfl rfl (dt_q dX3_digest_224_D 24 rfl) rfl rfl rfl rfl rfl rfl rfl
theorem eX3_digest_270 : WP (MX3_digest g) Q (270, [some (.ref p), l1, l2, l3, l4, l5], st, w, k, n) = WP (MX3_digest g) Q (271, [some (.ref p), l1, l2, l3, l4, l5], .ref p :: st, w, k, n) := alnR_e rfl (dt_q dX3_digest_224_D 25 rfl) rfl
theorem eX3_digest_270N : WP (MX3_digest g) Q (270, [some .null, l1, l2, l3, l4, l5], st, w, k, n) = WP (MX3_digest g) Q (271, [some .null, l1, l2, l3, l4, l5], .null :: st, w, k, n) := alnN_e rfl (dt_q dX3_digest_224_D 25 rfl) rfl
theorem eX3_digest_271 : WP (MX3_digest g) Q (271, [l0, l1, l2, some (.int a), l4, l5], st, w, k, n) = WP (MX3_digest g) Q (272, [l0, l1, l2, some (.int a), l4, l5], .int a :: st, w, k, n) := iln_e rfl (dt_q dX3_digest_224_D 26 rfl) rfl
theorem eX3_digest_272 {z0 : Int32} : WP (MX3_digest g) Q (272, [l0, l1, l2, l3, l4, l5], .int z0 :: .ref p :: st, w, k, n) = (go (rd g w p) 7 (fun _ => True) ∧ wt st ≤ 8 ∧ k + 1 ≤ 90 ∧ n + 4 ≤ 520 ∧ WP (MX3_oftenNow g) (kx (fun v w' => WP (MX3_digest g) Q (275, [l0, l1, l2, l3, l4, l5], v.toList ++ st, w', k + 1, n + 4)) (fun E w' => Q (.inr E) w')) (0, [some (.ref p), some (.int z0), none, none, none], [], w, 0, 0)) := csV0 (M := (MX3_digest g)) (mc := (fun _ _ => 1)) (ms := (fun _ _ => 4)) (As := [.int z0]) (rest := st) (MX3_oftenNow g) rfl rfl rfl (dt_q dX3_digest_224_D 27 rfl) rfl rfl rfl rfl rfl rfl
theorem eX3_digest_275 : WP (MX3_digest g) Q (275, [l0, l1, l2, l3, l4, l5], .int a :: st, w, k, n) = WP (MX3_digest g) Q (276, [l0, l1, l2, l3, l4, l5], .long a.toInt64 :: st, w, k, n) := i2l_e rfl (dt_q dX3_digest_224_D 28 rfl)
theorem eX3_digest_276 {z0 : Int64} {z1 : Int64} : WP (MX3_digest g) Q (276, [l0, l1, l2, l3, l4, l5], .long z1 :: .long z0 :: st, w, k, n) = (wt st ≤ 8 ∧ k + 0 ≤ 90 ∧ n + 0 ≤ 520 ∧ WP (MX3_add g) (kx (fun v w' => WP (MX3_digest g) Q (279, [l0, l1, l2, l3, l4, l5], v.toList ++ st, w', k + 0, n + 0)) (fun E w' => Q (.inr E) w')) (0, [some (.long z0), none, some (.long z1), none], [], w, 0, 0)) := csS0 (M := (MX3_digest g)) (mc := (fun _ _ => 0)) (ms := (fun _ _ => 0)) (As := [.long z0, .long z1]) (rest := st) (MX3_add g) rfl rfl rfl (dt_q dX3_digest_224_D 29 rfl) rfl rfl rfl rfl rfl rfl rfl
theorem eX3_digest_279 : WP (MX3_digest g) Q (279, [l0, l1, l2, l3, l4, l5], .long x :: st, w, k, n) = WP (MX3_digest g) Q (280, [nl l0, some (.long x), none, l3, l4, l5], st, w, k, n) := lsn_e rfl (dt_q dX3_digest_224_D 30 rfl) rfl rfl
theorem eX3_digest_280 : WP (MX3_digest g) Q (280, [l0, l1, l2, l3, l4, l5], st, w, k, n) = WP (MX3_digest g) Q (281, [l0, l1, l2, l3, l4, l5], .int (-1) :: st, w, k, n) := ic_m rfl (dt_q dX3_digest_224_D 31 rfl)
theorem eX3_digest_281 : WP (MX3_digest g) Q (281, [l0, l1, l2, l3, l4, l5], .int a :: st, w, k, n) = WP (MX3_digest g) Q (283, [l0, l1, l2, l3, nl l4, some (.int a)], st, w, k, n) := is_e rfl (dt_q dX3_digest_224_D 32 rfl) rfl rfl
theorem eX3_digest_283 : WP (MX3_digest g) Q (283, [l0, l1, l2, l3, l4, some (.int a)], st, w, k, n) = WP (MX3_digest g) Q (285, [l0, l1, l2, l3, l4, some (.int a)], .int a :: st, w, k, n) := il_e rfl (dt_q dX3_digest_224_D 33 rfl) rfl
theorem eX3_digest_285 : WP (MX3_digest g) Q (285, [l0, l1, l2, l3, l4, l5], st, w, k, n) = WP (MX3_digest g) Q (286, [l0, l1, l2, l3, l4, l5], .int 1 :: st, w, k, n) := ic_1 rfl (dt_q dX3_digest_224_D 34 rfl)
theorem eX3_digest_286 : WP (MX3_digest g) Q (286, [l0, l1, l2, l3, l4, l5], .int b :: .int a :: st, w, k, n) = if b < a then WP (MX3_digest g) Q (308, [l0, l1, l2, l3, l4, l5], st, w, k, n) else WP (MX3_digest g) Q (289, [l0, l1, l2, l3, l4, l5], st, w, k, n) := icm_e (b < a) rfl (dt_q dX3_digest_224_D 35 rfl) rfl (by decide)
theorem eX3_digest_289 : WP (MX3_digest g) Q (289, [l0, some (.long x), l2, l3, l4, l5], st, w, k, n) = WP (MX3_digest g) Q (290, [l0, some (.long x), l2, l3, l4, l5], .long x :: st, w, k, n) := lln_e rfl (dt_q dX3_digest_224_D 36 rfl) rfl
theorem eX3_digest_290 : WP (MX3_digest g) Q (290, [l0, l1, l2, l3, some (.ref p), l5], st, w, k, n) = WP (MX3_digest g) Q (292, [l0, l1, l2, l3, some (.ref p), l5], .ref p :: st, w, k, n) := alR_e rfl (dt_q dX3_digest_224_D 37 rfl) rfl
theorem eX3_digest_290N : WP (MX3_digest g) Q (290, [l0, l1, l2, l3, some .null, l5], st, w, k, n) = WP (MX3_digest g) Q (292, [l0, l1, l2, l3, some .null, l5], .null :: st, w, k, n) := alN_e rfl (dt_q dX3_digest_224_D 37 rfl) rfl
theorem eX3_digest_292 : WP (MX3_digest g) Q (292, [l0, l1, l2, l3, l4, some (.int a)], st, w, k, n) = WP (MX3_digest g) Q (294, [l0, l1, l2, l3, l4, some (.int a)], .int a :: st, w, k, n) := il_e rfl (dt_q dX3_digest_224_D 38 rfl) rfl
theorem eX3_digest_294R {z0 : Nat} {z1 : Int32} : WP (MX3_digest g) Q (294, [l0, l1, l2, l3, l4, l5], .int z1 :: .ref z0 :: st, w, k, n) = (wt st ≤ 8 ∧ k + 0 ≤ 90 ∧ n + 0 ≤ 520 ∧ WP (MX3_whichNow g) (kx (fun v w' => WP (MX3_digest g) Q (297, [l0, l1, l2, l3, l4, l5], v.toList ++ st, w', k + 0, n + 0)) (fun E w' => Q (.inr E) w')) (0, [some (.ref z0), some (.int z1)], [], w, 0, 0)) := csS0 (M := (MX3_digest g)) (mc := (fun _ _ => 0)) (ms := (fun _ _ => 0)) (As := [.ref z0, .int z1]) (rest := st) (MX3_whichNow g) rfl rfl rfl (dt_q dX3_digest_224_D 39 rfl) rfl rfl rfl rfl rfl rfl rfl
theorem eX3_digest_294N {z1 : Int32} : WP (MX3_digest g) Q (294, [l0, l1, l2, l3, l4, l5], .int z1 :: .null :: st, w, k, n) = (wt st ≤ 8 ∧ k + 0 ≤ 90 ∧ n + 0 ≤ 520 ∧ WP (MX3_whichNow g) (kx (fun v w' => WP (MX3_digest g) Q (297, [l0, l1, l2, l3, l4, l5], v.toList ++ st, w', k + 0, n + 0)) (fun E w' => Q (.inr E) w')) (0, [some .null, some (.int z1)], [], w, 0, 0)) := csS0 (M := (MX3_digest g)) (mc := (fun _ _ => 0)) (ms := (fun _ _ => 0)) (As := [.null, .int z1]) (rest := st) (MX3_whichNow g) rfl rfl rfl (dt_q dX3_digest_224_D 39 rfl) rfl rfl rfl rfl rfl rfl rfl
theorem eX3_digest_297 : WP (MX3_digest g) Q (297, [l0, l1, l2, l3, l4, l5], .int a :: st, w, k, n) = WP (MX3_digest g) Q (298, [l0, l1, l2, l3, l4, l5], .long a.toInt64 :: st, w, k, n) := i2l_e rfl (dt_q dX3_digest_297_D 0 rfl)
theorem eX3_digest_298 {z0 : Int64} {z1 : Int64} : WP (MX3_digest g) Q (298, [l0, l1, l2, l3, l4, l5], .long z1 :: .long z0 :: st, w, k, n) = (wt st ≤ 8 ∧ k + 0 ≤ 90 ∧ n + 0 ≤ 520 ∧ WP (MX3_add g) (kx (fun v w' => WP (MX3_digest g) Q (301, [l0, l1, l2, l3, l4, l5], v.toList ++ st, w', k + 0, n + 0)) (fun E w' => Q (.inr E) w')) (0, [some (.long z0), none, some (.long z1), none], [], w, 0, 0)) := csS0 (M := (MX3_digest g)) (mc := (fun _ _ => 0)) (ms := (fun _ _ => 0)) (As := [.long z0, .long z1]) (rest := st) (MX3_add g) rfl rfl rfl (dt_q dX3_digest_297_D 1 rfl) rfl rfl rfl rfl rfl rfl rfl
theorem eX3_digest_301 : WP (MX3_digest g) Q (301, [l0, l1, l2, l3, l4, l5], .long x :: st, w, k, n) = WP (MX3_digest g) Q (302, [nl l0, some (.long x), none, l3, l4, l5], st, w, k, n) := lsn_e rfl (dt_q dX3_digest_297_D 2 rfl) rfl rfl
theorem eX3_digest_302 : WP (MX3_digest g) Q (302, [l0, l1, l2, l3, l4, some (.int a)], st, w, k, n) = WP (MX3_digest g) Q (305, [l0, l1, l2, l3, nl l4, some (.int (a + 1))], st, w, k, n) := Eq.trans (iinc_e (M := (MX3_digest g)) (L := [l0, l1, l2, l3, l4, some (.int a)]) (d := 1) rfl (dt_q dX3_digest_297_D 3 rfl) (by decide) rfl) rfl
theorem eX3_digest_305 : WP (MX3_digest g) Q (305, [l0, l1, l2, l3, l4, l5], st, w, k, n) = WP (MX3_digest g) Q (283, [l0, l1, l2, l3, l4, l5], st, w, k, n) := goto_e rfl (dt_q dX3_digest_297_D 4 rfl) (by decide)
theorem eX3_digest_308 : WP (MX3_digest g) Q (308, [l0, l1, l2, some (.int a), l4, l5], st, w, k, n) = WP (MX3_digest g) Q (311, [l0, l1, nl l2, some (.int (a + 1)), l4, l5], st, w, k, n) := Eq.trans (iinc_e (M := (MX3_digest g)) (L := [l0, l1, l2, some (.int a), l4, l5]) (d := 1) rfl (dt_q dX3_digest_297_D 5 rfl) (by decide) rfl) rfl
theorem eX3_digest_311 : WP (MX3_digest g) Q (311, [l0, l1, l2, l3, l4, l5], st, w, k, n) = WP (MX3_digest g) Q (97, [l0, l1, l2, l3, l4, l5], st, w, k, n) := goto_e rfl (dt_q dX3_digest_297_D 6 rfl) (by decide)
theorem eX3_digest_314 : WP (MX3_digest g) Q (314, [l0, l1, l2, l3, l4, l5], st, w, k, n) = WP (MX3_digest g) Q (315, [l0, l1, l2, l3, l4, l5], .int 0 :: st, w, k, n) := ic_0 rfl (dt_q dX3_digest_297_D 7 rfl)
theorem eX3_digest_315 : WP (MX3_digest g) Q (315, [l0, l1, l2, l3, l4, l5], .int a :: st, w, k, n) = WP (MX3_digest g) Q (316, [l0, l1, nl l2, some (.int a), l4, l5], st, w, k, n) := isn_e rfl (dt_q dX3_digest_297_D 8 rfl) rfl rfl
theorem eX3_digest_316 : WP (MX3_digest g) Q (316, [l0, l1, l2, some (.int a), l4, l5], st, w, k, n) = WP (MX3_digest g) Q (317, [l0, l1, l2, some (.int a), l4, l5], .int a :: st, w, k, n) := iln_e rfl (dt_q dX3_digest_297_D 9 rfl) rfl
theorem eX3_digest_317 : WP (MX3_digest g) Q (317, [l0, l1, l2, l3, l4, l5], st, w, k, n) = WP (MX3_digest g) Q (318, [l0, l1, l2, l3, l4, l5], .int 2 :: st, w, k, n) := ic_2 rfl (dt_q dX3_digest_297_D 10 rfl)
theorem eX3_digest_318 : WP (MX3_digest g) Q (318, [l0, l1, l2, l3, l4, l5], .int b :: .int a :: st, w, k, n) = if b < a then WP (MX3_digest g) Q (338, [l0, l1, l2, l3, l4, l5], st, w, k, n) else WP (MX3_digest g) Q (321, [l0, l1, l2, l3, l4, l5], st, w, k, n) := icm_e (b < a) rfl (dt_q dX3_digest_297_D 11 rfl) rfl (by decide)
theorem eX3_digest_321 : WP (MX3_digest g) Q (321, [l0, some (.long x), l2, l3, l4, l5], st, w, k, n) = WP (MX3_digest g) Q (322, [l0, some (.long x), l2, l3, l4, l5], .long x :: st, w, k, n) := lln_e rfl (dt_q dX3_digest_297_D 12 rfl) rfl
theorem eX3_digest_322 : WP (MX3_digest g) Q (322, [some (.ref p), l1, l2, l3, l4, l5], st, w, k, n) = WP (MX3_digest g) Q (323, [some (.ref p), l1, l2, l3, l4, l5], .ref p :: st, w, k, n) := alnR_e rfl (dt_q dX3_digest_297_D 13 rfl) rfl
theorem eX3_digest_322N : WP (MX3_digest g) Q (322, [some .null, l1, l2, l3, l4, l5], st, w, k, n) = WP (MX3_digest g) Q (323, [some .null, l1, l2, l3, l4, l5], .null :: st, w, k, n) := alnN_e rfl (dt_q dX3_digest_297_D 13 rfl) rfl
theorem eX3_digest_323 : WP (MX3_digest g) Q (323, [l0, l1, l2, some (.int a), l4, l5], st, w, k, n) = WP (MX3_digest g) Q (324, [l0, l1, l2, some (.int a), l4, l5], .int a :: st, w, k, n) := iln_e rfl (dt_q dX3_digest_297_D 14 rfl) rfl
theorem eX3_digest_324 {z0 : Int32} : WP (MX3_digest g) Q (324, [l0, l1, l2, l3, l4, l5], .int z0 :: .ref p :: st, w, k, n) = (go (rd g w p) 7 (fun _ => True) ∧ wt st ≤ 8 ∧ k + 0 ≤ 90 ∧ n + 0 ≤ 520 ∧ WP (MX3_whichNow_ g) (kx (fun v w' => WP (MX3_digest g) Q (327, [l0, l1, l2, l3, l4, l5], v.toList ++ st, w', k + 0, n + 0)) (fun E w' => Q (.inr E) w')) (0, [some (.ref p), some (.int z0), none, none], [], w, 0, 0)) := csV0 (M := (MX3_digest g)) (mc := (fun _ _ => 0)) (ms := (fun _ _ => 0)) (As := [.int z0]) (rest := st) (MX3_whichNow_ g) rfl rfl rfl (dt_q dX3_digest_297_D 15 rfl) rfl rfl rfl rfl rfl rfl
theorem eX3_digest_327 : WP (MX3_digest g) Q (327, [l0, l1, l2, l3, l4, l5], .int a :: st, w, k, n) = WP (MX3_digest g) Q (328, [l0, l1, l2, l3, l4, l5], .long a.toInt64 :: st, w, k, n) := i2l_e rfl (dt_q dX3_digest_297_D 16 rfl)
theorem eX3_digest_328 {z0 : Int64} {z1 : Int64} : WP (MX3_digest g) Q (328, [l0, l1, l2, l3, l4, l5], .long z1 :: .long z0 :: st, w, k, n) = (wt st ≤ 8 ∧ k + 0 ≤ 90 ∧ n + 0 ≤ 520 ∧ WP (MX3_add g) (kx (fun v w' => WP (MX3_digest g) Q (331, [l0, l1, l2, l3, l4, l5], v.toList ++ st, w', k + 0, n + 0)) (fun E w' => Q (.inr E) w')) (0, [some (.long z0), none, some (.long z1), none], [], w, 0, 0)) := csS0 (M := (MX3_digest g)) (mc := (fun _ _ => 0)) (ms := (fun _ _ => 0)) (As := [.long z0, .long z1]) (rest := st) (MX3_add g) rfl rfl rfl (dt_q dX3_digest_297_D 17 rfl) rfl rfl rfl rfl rfl rfl rfl
theorem eX3_digest_331 : WP (MX3_digest g) Q (331, [l0, l1, l2, l3, l4, l5], .long x :: st, w, k, n) = WP (MX3_digest g) Q (332, [nl l0, some (.long x), none, l3, l4, l5], st, w, k, n) := lsn_e rfl (dt_q dX3_digest_297_D 18 rfl) rfl rfl
theorem eX3_digest_332 : WP (MX3_digest g) Q (332, [l0, l1, l2, some (.int a), l4, l5], st, w, k, n) = WP (MX3_digest g) Q (335, [l0, l1, nl l2, some (.int (a + 1)), l4, l5], st, w, k, n) := Eq.trans (iinc_e (M := (MX3_digest g)) (L := [l0, l1, l2, some (.int a), l4, l5]) (d := 1) rfl (dt_q dX3_digest_297_D 19 rfl) (by decide) rfl) rfl
theorem eX3_digest_335 : WP (MX3_digest g) Q (335, [l0, l1, l2, l3, l4, l5], st, w, k, n) = WP (MX3_digest g) Q (316, [l0, l1, l2, l3, l4, l5], st, w, k, n) := goto_e rfl (dt_q dX3_digest_297_D 20 rfl) (by decide)
theorem eX3_digest_338 : WP (MX3_digest g) Q (338, [l0, l1, l2, l3, l4, l5], st, w, k, n) = WP (MX3_digest g) Q (339, [l0, l1, l2, l3, l4, l5], .int 0 :: st, w, k, n) := ic_0 rfl (dt_q dX3_digest_297_D 21 rfl)
theorem eX3_digest_339 : WP (MX3_digest g) Q (339, [l0, l1, l2, l3, l4, l5], .int a :: st, w, k, n) = WP (MX3_digest g) Q (340, [l0, l1, nl l2, some (.int a), l4, l5], st, w, k, n) := isn_e rfl (dt_q dX3_digest_297_D 22 rfl) rfl rfl
theorem eX3_digest_340 : WP (MX3_digest g) Q (340, [l0, l1, l2, some (.int a), l4, l5], st, w, k, n) = WP (MX3_digest g) Q (341, [l0, l1, l2, some (.int a), l4, l5], .int a :: st, w, k, n) := iln_e rfl (dt_q dX3_digest_297_D 23 rfl) rfl
theorem eX3_digest_341 : WP (MX3_digest g) Q (341, [l0, l1, l2, l3, l4, l5], st, w, k, n) = WP (MX3_digest g) Q (342, [l0, l1, l2, l3, l4, l5], .int 5 :: st, w, k, n) := ic_5 rfl (dt_q dX3_digest_297_D 24 rfl)
theorem eX3_digest_342 : WP (MX3_digest g) Q (342, [l0, l1, l2, l3, l4, l5], .int b :: .int a :: st, w, k, n) = if b < a then WP (MX3_digest g) Q (363, [l0, l1, l2, l3, l4, l5], st, w, k, n) else WP (MX3_digest g) Q (345, [l0, l1, l2, l3, l4, l5], st, w, k, n) := icm_e (b < a) rfl (dt_q dX3_digest_297_D 25 rfl) rfl (by decide)
theorem eX3_digest_345 : WP (MX3_digest g) Q (345, [l0, some (.long x), l2, l3, l4, l5], st, w, k, n) = WP (MX3_digest g) Q (346, [l0, some (.long x), l2, l3, l4, l5], .long x :: st, w, k, n) := lln_e rfl (dt_q dX3_digest_297_D 26 rfl) rfl
theorem eX3_digest_346 : WP (MX3_digest g) Q (346, [some (.ref p), l1, l2, l3, l4, l5], st, w, k, n) = WP (MX3_digest g) Q (347, [some (.ref p), l1, l2, l3, l4, l5], .ref p :: st, w, k, n) := alnR_e rfl (dt_q dX3_digest_297_D 27 rfl) rfl
theorem eX3_digest_346N : WP (MX3_digest g) Q (346, [some .null, l1, l2, l3, l4, l5], st, w, k, n) = WP (MX3_digest g) Q (347, [some .null, l1, l2, l3, l4, l5], .null :: st, w, k, n) := alnN_e rfl (dt_q dX3_digest_297_D 27 rfl) rfl
theorem eX3_digest_347 : WP (MX3_digest g) Q (347, [l0, l1, l2, l3, l4, l5], st, w, k, n) = WP (MX3_digest g) Q (348, [l0, l1, l2, l3, l4, l5], .int 0 :: st, w, k, n) := ic_0 rfl (dt_q dX3_digest_297_D 28 rfl)
theorem eX3_digest_348 : WP (MX3_digest g) Q (348, [l0, l1, l2, some (.int a), l4, l5], st, w, k, n) = WP (MX3_digest g) Q (349, [l0, l1, l2, some (.int a), l4, l5], .int a :: st, w, k, n) := iln_e rfl (dt_q dX3_digest_297_D 29 rfl) rfl
theorem eX3_digest_349 {z0 : Int32} {z1 : Int32} : WP (MX3_digest g) Q (349, [l0, l1, l2, l3, l4, l5], .int z1 :: .int z0 :: .ref p :: st, w, k, n) = (go (rd g w p) 7 (fun _ => True) ∧ wt st ≤ 8 ∧ k + 12 ≤ 90 ∧ n + 72 ≤ 520 ∧ WP (MX3_pileNow g) (kx (fun v w' => WP (MX3_digest g) Q (352, [l0, l1, l2, l3, l4, l5], v.toList ++ st, w', k + 12, n + 72)) (fun E w' => Q (.inr E) w')) (0, [some (.ref p), some (.int z0), some (.int z1), none, none, none, none], [], w, 0, 0)) := csV0 (M := (MX3_digest g)) (mc := (fun _ _ => 12)) (ms := (fun _ _ => 72)) (As := [.int z0, .int z1]) (rest := st) (MX3_pileNow g) rfl rfl rfl (dt_q dX3_digest_297_D 30 rfl) rfl rfl rfl rfl rfl rfl
theorem eX3_digest_352 : WP (MX3_digest g) Q (352, [l0, l1, l2, l3, l4, l5], .int a :: st, w, k, n) = WP (MX3_digest g) Q (353, [l0, l1, l2, l3, l4, l5], .long a.toInt64 :: st, w, k, n) := i2l_e rfl (dt_q dX3_digest_297_D 31 rfl)
theorem eX3_digest_353 {z0 : Int64} {z1 : Int64} : WP (MX3_digest g) Q (353, [l0, l1, l2, l3, l4, l5], .long z1 :: .long z0 :: st, w, k, n) = (wt st ≤ 8 ∧ k + 0 ≤ 90 ∧ n + 0 ≤ 520 ∧ WP (MX3_add g) (kx (fun v w' => WP (MX3_digest g) Q (356, [l0, l1, l2, l3, l4, l5], v.toList ++ st, w', k + 0, n + 0)) (fun E w' => Q (.inr E) w')) (0, [some (.long z0), none, some (.long z1), none], [], w, 0, 0)) := csS0 (M := (MX3_digest g)) (mc := (fun _ _ => 0)) (ms := (fun _ _ => 0)) (As := [.long z0, .long z1]) (rest := st) (MX3_add g) rfl rfl rfl (dt_q dX3_digest_297_D 32 rfl) rfl rfl rfl rfl rfl rfl rfl
theorem eX3_digest_356 : WP (MX3_digest g) Q (356, [l0, l1, l2, l3, l4, l5], .long x :: st, w, k, n) = WP (MX3_digest g) Q (357, [nl l0, some (.long x), none, l3, l4, l5], st, w, k, n) := lsn_e rfl (dt_q dX3_digest_297_D 33 rfl) rfl rfl
theorem eX3_digest_357 : WP (MX3_digest g) Q (357, [l0, l1, l2, some (.int a), l4, l5], st, w, k, n) = WP (MX3_digest g) Q (360, [l0, l1, nl l2, some (.int (a + 1)), l4, l5], st, w, k, n) := Eq.trans (iinc_e (M := (MX3_digest g)) (L := [l0, l1, l2, some (.int a), l4, l5]) (d := 1) rfl (dt_q dX3_digest_297_D 34 rfl) (by decide) rfl) rfl
theorem eX3_digest_360 : WP (MX3_digest g) Q (360, [l0, l1, l2, l3, l4, l5], st, w, k, n) = WP (MX3_digest g) Q (340, [l0, l1, l2, l3, l4, l5], st, w, k, n) := goto_e rfl (dt_q dX3_digest_297_D 35 rfl) (by decide)
theorem eX3_digest_363 : WP (MX3_digest g) Q (363, [l0, some (.long x), l2, l3, l4, l5], st, w, k, n) = WP (MX3_digest g) Q (364, [l0, some (.long x), l2, l3, l4, l5], .long x :: st, w, k, n) := lln_e rfl (dt_q dX3_digest_297_D 36 rfl) rfl
theorem eX3_digest_364 : WP (MX3_digest g) Q (364, [l0, l1, l2, l3, l4, l5], st, w, k, n) = WP (MX3_digest g) Q (365, [l0, l1, l2, l3, l4, l5], .long 1 :: st, w, k, n) := lconst_e rfl (dt_q dX3_digest_297_D 37 rfl) (by decide)
theorem eX3_digest_365 {z0 : Int64} {z1 : Int64} : WP (MX3_digest g) Q (365, [l0, l1, l2, l3, l4, l5], .long z1 :: .long z0 :: st, w, k, n) = (wt st ≤ 8 ∧ k + 0 ≤ 90 ∧ n + 0 ≤ 520 ∧ WP (MX3_add g) (kx (fun v w' => WP (MX3_digest g) Q (368, [l0, l1, l2, l3, l4, l5], v.toList ++ st, w', k + 0, n + 0)) (fun E w' => Q (.inr E) w')) (0, [some (.long z0), none, some (.long z1), none], [], w, 0, 0)) := csS0 (M := (MX3_digest g)) (mc := (fun _ _ => 0)) (ms := (fun _ _ => 0)) (As := [.long z0, .long z1]) (rest := st) (MX3_add g) rfl rfl rfl (dt_q dX3_digest_297_D 38 rfl) rfl rfl rfl rfl rfl rfl rfl
theorem eX3_digest_368 : WP (MX3_digest g) Q (368, [l0, l1, l2, l3, l4, l5], [.long x], w, k, n) = (k ≤ 90 ∧ n ≤ 520 ∧ Q (.inl (some (.long x))) w) := lret_e rfl (dt_q dX3_digest_297_D 39 rfl) rfl
end
theorem wk_1666 : (.constantLong RX3 218 (7783) : Jvm.Cond) ∈ WS := WS_t7 168 rfl rfl
theorem wk_1669 : (.code yX3_add cX3_add 4 (some .long) : Jvm.Cond) ∈ WS := WS_t7 171 rfl rfl
theorem wk_1667 : (.methodLink RX3 220 yX3_add : Jvm.Cond) ∈ WS := WS_t7 169 rfl rfl
theorem wk_1668 : (.static yX3_add : Jvm.Cond) ∈ WS := WS_t7 170 rfl rfl
theorem kc_77 {l : Launch} (hl : l.stackTraces = false) {G : GT} {own : String} {i : Nat} (hw : Jvm.Cond.methodLink own i yX3_add ∈ WS) : vCal l G own i (0, 2, 0, 1, (fun _ _ => 0), (fun _ _ => 0), yX3_add, spOf (MX3_add (gg G))) := ⟨cX3_add, 4, some .long, fun y hy => by subst hy; exact ⟨by decide, ⟨_, wk_1669, okX3_add hl, Or.inl ⟨Nat.ne_of_beq_eq_false rfl, rfl⟩⟩, wk_60, nc13, ⟨(by decide +kernel : (parseMethodDescriptor yX3_add.desc).map (fun d => d.parameters.length) = some 2), hw, wk_1668⟩⟩⟩
theorem vMX3_digest {l : Launch} (hl : l.stackTraces = false) (G : GT) : vM l G (MX3_digest (gg G)) := vM_k RX3 cX3_digest rfl rfl (all_c (vF_RX3_27) (all_c (vF_RX3_9) (all_c (vF_RX3_16) (all_n)))) all_n all_n (all_c (wk_1666) (all_n)) all_n (fun h => absurd rfl h) (all_c (kc_76 hl wk_1649) (all_c (kc_77 hl wk_1667) (all_c (kc_40 hl wk_1236) (all_c (kc_41 hl wk_1244) (all_c (kc_65 hl wk_1488) (all_c (kc_53 hl wk_1372) (all_c (kc_47 hl wk_1311) (all_c (kc_37 hl wk_1376) (all_c (kc_64 hl wk_1477) (all_c (kc_56 hl wk_1392) (all_c (kc_58 hl wk_1427) (all_c (kc_67 hl wk_1512) (all_c (kc_69 hl wk_1528) (all_c (kc_71 hl wk_1536) (all_c (kc_63 hl wk_1470) (all_c (kc_66 hl wk_1496) (all_c (kc_75 hl wk_1636) (all_n)))))))))))))))))) all_n (all_c (⟨.long, rfl, (fun C h => by cases h), wk_1380⟩) (all_n)) (fun h => absurd rfl h) rfl all_n
theorem okX3_digest {l : Launch} (hl : l.stackTraces = false) {G : GT} : ∀ (args : List Value) (w : Hw) (S : Ot → Hw → Prop), spOf (MX3_digest (gg G)) args w S → CX l G yX3_digest (.code yX3_digest cX3_digest 6 (some .long)) 6 90 520 args w S := CX_sp (M := MX3_digest (gg G)) (y := yX3_digest) hl (by decide) rfl (vMX3_digest hl G) (fun h => by cases h) rfl
end
/-! 60.text0.lean.txt -/
section
section
variable {g : RO} {Q : Ot → Hw → Prop} {w0 w : Hw}
def bOK (N : Nat) (f : Nat → Int32) : Prop := ∀ j, j < N → fits .byte (.int (f j)) = true
theorem i8_rng (v : Int32) : fits .byte (.int v.toInt8.toInt32) = true := by
  have h1 := Int8.le_toInt v.toInt8
  have h2 := Int8.toInt_lt v.toInt8
  have e0 := Int8.toInt_toInt32 v.toInt8
  have a : (-128 : Int32) ≤ v.toInt8.toInt32 := Int32.le_iff_toInt_le.mpr (by have e : (-128 : Int32).toInt = -128 := by decide
                                                                              omega)
  have b : v.toInt8.toInt32 ≤ (127 : Int32) := Int32.le_iff_toInt_le.mpr (by have e : (127 : Int32).toInt = 127 := rfl
                                                                             omega)
  simp only [fits, Bool.and_eq_true, decide_eq_true_eq]
  exact ⟨a, b⟩
theorem bOK_up {N : Nat} {f : Nat → Int32} (h : bOK N f) (j : Nat) (v : Int32) : bOK N (upd f j (vp_nar .byte v)) := fun i hi => by
  unfold upd
  split
  · rw [vp_nar_byte]
    exact i8_rng v
  · exact h i hi
theorem bOK_0 (N : Nat) : bOK N (fun _ => 0) := fun _ _ => rfl
theorem bOK_cpy {N0 N1 sp dp n : Nat} {f0 f1 : Nat → Int32} (h0 : bOK N0 f0) (h1 : bOK N1 f1) (h : sp + n ≤ N0) : bOK N1 (va_cpy f0 f1 sp dp n) := fun i hi => by
  unfold va_cpy
  split
  · exact h0 _ (by omega)
  · exact h1 i hi
theorem upw2 {w : Hw} {a : Nat} {o o' : Ob} : upw (upw w a o) a o' = upw w a o' := by
  funext q
  unfold upw
  split <;> rfl
theorem vpiN {a : Int32} {N : Nat} (h0 : (0 : Int) ≤ a.toInt) (h1 : a.toInt < (N : Int)) : vp_in a N := by
  rintro (h | h)
  · have := i32_lt h
    have e : (0 : Int32).toInt = 0 := rfl
    omega
  · have e1 : a.toNatClampNeg = a.toInt.toNat := rfl
    omega
theorem i32_neg {a : Int32} (h : ¬ a < 0) : (-a).toInt = -a.toInt := by
  have h1 := i32_0 h
  have h2 := i32_bd a
  rw [Int32.toInt_neg]
  exact Int.bmod_eq_of_le (by omega) (by omega)
theorem nn {a : Int32} : - -a = a := Int32.neg_neg
/-- where the digits lie; that a text is of bytes -/
def DG (g : RO) (w : Hw) : Prop := g.1 1 = .int 1 ∧ (∃ (a : Nat) (f : Nat → Int32), g.1 2 = .ref a ∧ g.2 a = some (.inl (2, 100, .inl f)) ∧ w a = none) ∧ ∃ (a : Nat) (f : Nat → Int32), g.1 3 = .ref a ∧ g.2 a = some (.inl (2, 100, .inl f)) ∧ w a = none
theorem rd_r {g : RO} {w : Hw} {a : Nat} {o : Ob} (h : g.2 a = some o) (k : w a = none) : rd g w a = some o := by
  unfold rd; rw [k]; exact h
theorem DG.ext {g : RO} {w w' : Hw} (h : DG g w) (k : ext g w w') : DG g w' := by
  obtain ⟨h1, ⟨a, f, h2, h3, h4⟩, ⟨b, f', h5, h6, h7⟩⟩ := h
  exact ⟨h1, ⟨a, f, h2, h3, k.2 a _ h3 h4⟩, ⟨b, f', h5, h6, k.2 b _ h6 h7⟩⟩
theorem ss1 {a : Int32} (k0 : ¬ a < 0) (k1 : a < 10) : (-10 < -a) = True := eq_true (i32_of_lt (by
  rw [i32_neg k0]
  have e : (-10 : Int32).toInt = -10 := by decide
  have e2 : (10 : Int32).toInt = 10 := rfl
  have := i32_lt k1
  omega))
theorem ss2 {a : Int32} (k0 : ¬ a < 0) (k1 : a < 10) : (-100 < -a) = True := eq_true (i32_of_lt (by
  rw [i32_neg k0]
  have e : (-100 : Int32).toInt = -100 := by decide
  have e2 : (10 : Int32).toInt = 10 := rfl
  have := i32_lt k1
  omega))
theorem ss3 {a : Int32} (k0 : ¬ a < 0) (k1 : a < 10) : (-a < -9) = False := eq_false (i32_of_nlt (by
  rw [i32_neg k0]
  have e : (-9 : Int32).toInt = -9 := by decide
  have e2 : (10 : Int32).toInt = 10 := rfl
  have := i32_lt k1
  omega))
theorem s10 : ((1 : Int32) < 10) = True := eq_true (by decide)
theorem a10 : (1 : Int32) + 0 = 1 := rfl
set_option maxHeartbeats 4000000 in
theorem sJ6_stringSize_0f7a4 {a : Int32} (k0 : ¬ a < 0) (k1 : a < 10) (hQ : Q (.inl (some (.int 1))) w) : WP (MJ6_stringSize_0f7a4 g) Q (0, [some (.int a), none, none, none], [], w, 0, 0) := by
  have e0 : (a < 0) = False := eq_false k0
  repeat' first
    | with_reducible assumption
    | with_reducible refine And.intro ?_ ?_
    | with_reducible exact vpi6 (by assumption) (by assumption)
    | with_reducible exact vpi8 (by assumption) (by assumption)
    | with_reducible rw [eJ6_stringSize_0f7a4_16]
    | simp only [eJ6_stringSize_0f7a4_0, eJ6_stringSize_0f7a4_1, eJ6_stringSize_0f7a4_2, eJ6_stringSize_0f7a4_3, eJ6_stringSize_0f7a4_6, eJ6_stringSize_0f7a4_7, eJ6_stringSize_0f7a4_8, eJ6_stringSize_0f7a4_9, eJ6_stringSize_0f7a4_10, eJ6_stringSize_0f7a4_11, eJ6_stringSize_0f7a4_13, eJ6_stringSize_0f7a4_14, eJ6_stringSize_0f7a4_15, eJ6_stringSize_0f7a4_17, eJ6_stringSize_0f7a4_19, eJ6_stringSize_0f7a4_22, eJ6_stringSize_0f7a4_23, eJ6_stringSize_0f7a4_24, eJ6_stringSize_0f7a4_27, eJ6_stringSize_0f7a4_28, eJ6_stringSize_0f7a4_29, eJ6_stringSize_0f7a4_30, eJ6_stringSize_0f7a4_31, eJ6_stringSize_0f7a4_33, eJ6_stringSize_0f7a4_34, eJ6_stringSize_0f7a4_35, eJ6_stringSize_0f7a4_36, eJ6_stringSize_0f7a4_39, eJ6_stringSize_0f7a4_42, eJ6_stringSize_0f7a4_44, eJ6_stringSize_0f7a4_45, eJ6_stringSize_0f7a4_46, e0, ss1 k0 k1, s10, a10, if_true, if_false, ite_le, n45, n54, true_or, or_true, false_or, or_false, false_and, and_false, kx_l, kx_r, go_s, gl_s, gi_s, gb_s2, gb_s3, gq_s, wt_nil, wt_int, wt_long, wt_ref, wt_null, nl_int, nl_long, nl_ref, nl_null, nl_none, rf_n, rf_s, rf_st, tl_s, tl_n, g0, gS, ex1, nb_b, nb_0, nb_1, nf_i, nf_l, nf_ra, nf_ro, nf_na, nf_no, nf_b0, nf_z0, t45_4, t45_5, true_and, and_true, List.set_cons_zero, List.set_cons_succ, List.length_cons, List.length_nil, rd_s, upw_s, ne_eq, not_false_eq_true, Nat.zero_add, Nat.add_zero]
    | split
    | with_reducible intro _
    | omega
set_option maxHeartbeats 4000000 in
theorem sJ6_getChars_ba4f3 {a i : Int32} {d N : Nat} {f : Nat → Int32} (hd : w d = some (.inl (2, N, .inl f))) (hf : bOK N f) (hD : DG g w) (k0 : ¬ a < 0) (k1 : a < 10) (i0 : 0 < i.toInt) (i1 : i.toInt ≤ (N : Int)) (hQ : ∀ (f' : Nat → Int32) (v : Int32), bOK N f' → Q (.inl (some (.int v))) (upw w d (.inl (2, N, .inl f')))) : WP (MJ6_getChars_ba4f3 g) Q (0, [some (.int a), some (.int i), some (.ref d), none, none, none, none], [], w, 0, 0) := by
  have e0 : (a < 0) = False := eq_false k0
  obtain ⟨hc, ⟨a1, f1, g1, g2, g3⟩, ⟨a2, f2, g4, g5, g6⟩⟩ := hD
  have r1 := rd_r g2 g3
  have r2 := rd_r g5 g6
  have rdd := rd_e (g := g) hd
  have iv : vp_in (i + -1) N := by
    have bi := i32_bd i
    have e : (-1 : Int32).toInt = -1 := by decide
    have s : (i + -1).toInt = i.toInt - 1 := by
      rw [i32_add (by omega) (by omega), e]
      omega
    exact vpiN (by omega) (by omega)
  have av : vp_in a 100 := vpi k0 (Int32.lt_of_lt_of_le k1 (by decide) : a < 100) (by decide)
  repeat' first
    | with_reducible assumption
    | with_reducible refine And.intro ?_ ?_
    | with_reducible exact vpi6 (by assumption) (by assumption)
    | with_reducible exact vpi8 (by assumption) (by assumption)
    | with_reducible exact iv
    | with_reducible exact av
    | with_reducible exact hQ _ _ (bOK_up hf _ _)
    | with_reducible rw [eJ6_getChars_ba4f3_22]
    | simp only [eJ6_getChars_ba4f3_0, eJ6_getChars_ba4f3_1, eJ6_getChars_ba4f3_3, eJ6_getChars_ba4f3_4, eJ6_getChars_ba4f3_7, eJ6_getChars_ba4f3_8, eJ6_getChars_ba4f3_11, eJ6_getChars_ba4f3_12, eJ6_getChars_ba4f3_14, eJ6_getChars_ba4f3_16, eJ6_getChars_ba4f3_19, eJ6_getChars_ba4f3_20, eJ6_getChars_ba4f3_21, eJ6_getChars_ba4f3_23, eJ6_getChars_ba4f3_25, eJ6_getChars_ba4f3_28, eJ6_getChars_ba4f3_29, eJ6_getChars_ba4f3_31, eJ6_getChars_ba4f3_32, eJ6_getChars_ba4f3_33, eJ6_getChars_ba4f3_34, eJ6_getChars_ba4f3_36, eJ6_getChars_ba4f3_37, eJ6_getChars_ba4f3_38, eJ6_getChars_ba4f3_39, eJ6_getChars_ba4f3_41, eJ6_getChars_ba4f3_42, eJ6_getChars_ba4f3_43, eJ6_getChars_ba4f3_43N, eJ6_getChars_ba4f3_44, eJ6_getChars_ba4f3_47, eJ6_getChars_ba4f3_49, eJ6_getChars_ba4f3_52, eJ6_getChars_ba4f3_54, eJ6_getChars_ba4f3_55, eJ6_getChars_ba4f3_56, eJ6_getChars_ba4f3_56N, eJ6_getChars_ba4f3_57, eJ6_getChars_ba4f3_60, eJ6_getChars_ba4f3_62, eJ6_getChars_ba4f3_65, eJ6_getChars_ba4f3_67, eJ6_getChars_ba4f3_68, eJ6_getChars_ba4f3_69, eJ6_getChars_ba4f3_72, eJ6_getChars_ba4f3_72N, eJ6_getChars_ba4f3_73, eJ6_getChars_ba4f3_76, eJ6_getChars_ba4f3_78, eJ6_getChars_ba4f3_81, eJ6_getChars_ba4f3_82, eJ6_getChars_ba4f3_83, eJ6_getChars_ba4f3_84, eJ6_getChars_ba4f3_85, eJ6_getChars_ba4f3_86, eJ6_getChars_ba4f3_88, eJ6_getChars_ba4f3_91, eJ6_getChars_ba4f3_91N, eJ6_getChars_ba4f3_92, eJ6_getChars_ba4f3_95, eJ6_getChars_ba4f3_97, eJ6_getChars_ba4f3_100, eJ6_getChars_ba4f3_101, eJ6_getChars_ba4f3_102, eJ6_getChars_ba4f3_103, eJ6_getChars_ba4f3_104, eJ6_getChars_ba4f3_106, eJ6_getChars_ba4f3_109, eJ6_getChars_ba4f3_109N, eJ6_getChars_ba4f3_110, eJ6_getChars_ba4f3_113, eJ6_getChars_ba4f3_115, eJ6_getChars_ba4f3_117, eJ6_getChars_ba4f3_118, eJ6_getChars_ba4f3_120, e0, ss2 k0 k1, ss3 k0 k1, nn, g1, g4, r1, r2, hd, rdd, bty_2, if_true, if_false, ite_le, n45, n54, true_or, or_true, false_or, or_false, false_and, and_false, kx_l, kx_r, go_s, gl_s, gi_s, gb_s2, gb_s3, gq_s, wt_nil, wt_int, wt_long, wt_ref, wt_null, nl_int, nl_long, nl_ref, nl_null, nl_none, rf_n, rf_s, rf_st, tl_s, tl_n, g0, gS, ex1, nb_b, nb_0, nb_1, nf_i, nf_l, nf_ra, nf_ro, nf_na, nf_no, nf_b0, nf_z0, t45_4, t45_5, true_and, and_true, List.set_cons_zero, List.set_cons_succ, List.length_cons, List.length_nil, rd_s, upw_s, ne_eq, not_false_eq_true, Nat.zero_add, Nat.add_zero]
    | split
    | with_reducible intro _
    | omega
end
end
/-! 60.text1.lean.txt -/
section
section
variable {g : RO} {Q : Ot → Hw → Prop} {w0 w : Hw}
theorem p10 (n : Nat) (h : n ≤ 18) : (1 : Int) ≤ (10 : Int) ^ n ∧ (10 : Int) ^ n ≤ 1000000000000000000 := by
  match n, h with
  | 0, _ => exact ⟨by decide, by decide⟩
  | 1, _ => exact ⟨by decide, by decide⟩
  | 2, _ => exact ⟨by decide, by decide⟩
  | 3, _ => exact ⟨by decide, by decide⟩
  | 4, _ => exact ⟨by decide, by decide⟩
  | 5, _ => exact ⟨by decide, by decide⟩
  | 6, _ => exact ⟨by decide, by decide⟩
  | 7, _ => exact ⟨by decide, by decide⟩
  | 8, _ => exact ⟨by decide, by decide⟩
  | 9, _ => exact ⟨by decide, by decide⟩
  | 10, _ => exact ⟨by decide, by decide⟩
  | 11, _ => exact ⟨by decide, by decide⟩
  | 12, _ => exact ⟨by decide, by decide⟩
  | 13, _ => exact ⟨by decide, by decide⟩
  | 14, _ => exact ⟨by decide, by decide⟩
  | 15, _ => exact ⟨by decide, by decide⟩
  | 16, _ => exact ⟨by decide, by decide⟩
  | 17, _ => exact ⟨by decide, by decide⟩
  | 18, _ => exact ⟨by decide, by decide⟩
  | n + 19, h => omega
theorem p10s (n : Nat) : (10 : Int) ^ (n + 1) = 10 * (10 : Int) ^ n := by rw [Int.pow_succ]; omega
theorem p10p (n : Nat) : (0 : Int) < (10 : Int) ^ n := by
  induction n with
  | zero => decide
  | succ n ih => rw [p10s]; omega
theorem i64_bd (a : Int64) : -9223372036854775808 ≤ a.toInt ∧ a.toInt ≤ 9223372036854775807 := by
  have h1 := Int64.le_toInt a
  have h2 := Int64.toInt_lt a
  omega
theorem i64_mul10 {p : Int64} {n : Nat} (h : p.toInt = -((10 : Int) ^ n)) (hn : n + 1 ≤ 18) : (10 * p).toInt = -((10 : Int) ^ (n + 1)) := by
  have h1 := p10 (n + 1) hn
  have e : (10 : Int64).toInt = 10 := rfl
  rw [Int64.toInt_mul, e, h]
  rw [p10s] at h1 ⊢
  rw [Int.bmod_eq_of_le (by omega) (by omega)]
  omega
theorem i64_neg {a : Int64} (h : ¬ a.toInt = -9223372036854775808) : (-a).toInt = -a.toInt := by
  have h2 := i64_bd a
  rw [Int64.toInt_neg]
  exact Int.bmod_eq_of_le (by omega) (by omega)
theorem i64_lt {a b : Int64} (h : a < b) : a.toInt < b.toInt := Int64.lt_iff_toInt_lt.mp h
theorem i64_nlt {a b : Int64} (h : ¬ a < b) : b.toInt ≤ a.toInt := Int64.le_iff_toInt_le.mp (Int64.not_lt.mp h)
theorem lt_f {a b : Int32} (h : b.toInt ≤ a.toInt) : (a < b) = False := eq_false (i32_of_nlt h)
theorem lt_t {a b : Int32} (h : a.toInt < b.toInt) : (a < b) = True := eq_true (i32_of_lt h)
set_option maxHeartbeats 4000000 in
theorem lJ13_ss {x : Int64} {dd : Int32} (hd0 : 0 ≤ dd.toInt) (hd1 : dd.toInt ≤ 1) (hQ : ∀ (v : Int32) (kk : Nat), 1 ≤ kk → kk ≤ 19 → v.toInt = kk + dd.toInt → -((10 : Int) ^ kk) < x.toInt → Q (.inl (some (.int v))) w) :
    ∀ (e : Nat) (p : Int64) (i : Int32), i.toInt + e = 19 → 1 ≤ i.toInt → (i.toInt < 19 → p.toInt = -((10 : Int) ^ i.toInt.toNat)) → WP (MJ13_stringSize_95d88 g) Q (20, [some (.long x), none, some (.int dd), some (.long p), none, some (.int i)], [], w, 0, 0) := by
  intro e
  induction e with
  | zero =>
    intro p i hi h1 hp
    have e19 : (19 : Int32).toInt = 19 := rfl
    rw [eJ13_stringSize_95d88_20]
    simp only [eJ13_stringSize_95d88_0, eJ13_stringSize_95d88_1, eJ13_stringSize_95d88_2, eJ13_stringSize_95d88_3, eJ13_stringSize_95d88_4, eJ13_stringSize_95d88_5, eJ13_stringSize_95d88_8, eJ13_stringSize_95d88_9, eJ13_stringSize_95d88_10, eJ13_stringSize_95d88_11, eJ13_stringSize_95d88_12, eJ13_stringSize_95d88_13, eJ13_stringSize_95d88_16, eJ13_stringSize_95d88_17, eJ13_stringSize_95d88_18, eJ13_stringSize_95d88_22, eJ13_stringSize_95d88_24, eJ13_stringSize_95d88_27, eJ13_stringSize_95d88_28, eJ13_stringSize_95d88_29, eJ13_stringSize_95d88_30, eJ13_stringSize_95d88_33, eJ13_stringSize_95d88_35, eJ13_stringSize_95d88_36, eJ13_stringSize_95d88_37, eJ13_stringSize_95d88_38, eJ13_stringSize_95d88_41, eJ13_stringSize_95d88_42, eJ13_stringSize_95d88_43, eJ13_stringSize_95d88_44, eJ13_stringSize_95d88_47, eJ13_stringSize_95d88_50, eJ13_stringSize_95d88_52, eJ13_stringSize_95d88_53, eJ13_stringSize_95d88_54, ite_le, n45, n54, true_or, or_true, false_or, or_false, false_and, and_false, kx_l, kx_r, go_s, gl_s, gi_s, gb_s2, gb_s3, gq_s, wt_nil, wt_int, wt_long, wt_ref, wt_null, nl_int, nl_long, nl_ref, nl_null, nl_none, rf_n, rf_s, rf_st, tl_s, tl_n, g0, gS, ex1, nb_b, nb_0, nb_1, nf_i, nf_l, nf_ra, nf_ro, nf_na, nf_no, nf_b0, nf_z0, t45_4, t45_5, true_and, and_true, List.set_cons_zero, List.set_cons_succ, List.length_cons, List.length_nil, rd_s, upw_s, ne_eq, not_false_eq_true, Nat.zero_add, Nat.add_zero, if_true, if_false, lt_f (show (19 : Int32).toInt ≤ i.toInt by omega)]
    repeat' first | with_reducible refine And.intro ?_ ?_ | omega
    refine hQ _ 19 (by decide) (by decide) ?_ ?_
    · rw [i32_add (by omega) (by omega), e19]; rfl
    · have h3 := (i64_bd x).1
      have h4 : (10 : Int) ^ 19 = 10000000000000000000 := by decide
      omega
  | succ e ih =>
    intro p i hi h1 hp
    have e19 : (19 : Int32).toInt = 19 := rfl
    have hp := hp (by omega)
    rw [eJ13_stringSize_95d88_20]
    simp only [eJ13_stringSize_95d88_0, eJ13_stringSize_95d88_1, eJ13_stringSize_95d88_2, eJ13_stringSize_95d88_3, eJ13_stringSize_95d88_4, eJ13_stringSize_95d88_5, eJ13_stringSize_95d88_8, eJ13_stringSize_95d88_9, eJ13_stringSize_95d88_10, eJ13_stringSize_95d88_11, eJ13_stringSize_95d88_12, eJ13_stringSize_95d88_13, eJ13_stringSize_95d88_16, eJ13_stringSize_95d88_17, eJ13_stringSize_95d88_18, eJ13_stringSize_95d88_22, eJ13_stringSize_95d88_24, eJ13_stringSize_95d88_27, eJ13_stringSize_95d88_28, eJ13_stringSize_95d88_29, eJ13_stringSize_95d88_30, eJ13_stringSize_95d88_33, eJ13_stringSize_95d88_35, eJ13_stringSize_95d88_36, eJ13_stringSize_95d88_37, eJ13_stringSize_95d88_38, eJ13_stringSize_95d88_41, eJ13_stringSize_95d88_42, eJ13_stringSize_95d88_43, eJ13_stringSize_95d88_44, eJ13_stringSize_95d88_47, eJ13_stringSize_95d88_50, eJ13_stringSize_95d88_52, eJ13_stringSize_95d88_53, eJ13_stringSize_95d88_54, ite_le, n45, n54, true_or, or_true, false_or, or_false, false_and, and_false, kx_l, kx_r, go_s, gl_s, gi_s, gb_s2, gb_s3, gq_s, wt_nil, wt_int, wt_long, wt_ref, wt_null, nl_int, nl_long, nl_ref, nl_null, nl_none, rf_n, rf_s, rf_st, tl_s, tl_n, g0, gS, ex1, nb_b, nb_0, nb_1, nf_i, nf_l, nf_ra, nf_ro, nf_na, nf_no, nf_b0, nf_z0, t45_4, t45_5, true_and, and_true, List.set_cons_zero, List.set_cons_succ, List.length_cons, List.length_nil, rd_s, upw_s, ne_eq, not_false_eq_true, Nat.zero_add, Nat.add_zero, if_true, if_false, lt_t (show i.toInt < (19 : Int32).toInt by omega), lg_cmp_gt]
    split
    · next hlt =>
      have h5 := i64_lt hlt
      repeat' first | with_reducible refine And.intro ?_ ?_ | omega
      refine hQ _ i.toInt.toNat (by omega) (by omega) ?_ (by omega)
      rw [i32_add (by omega) (by omega)]
      omega
    · have e1 : (i + 1).toInt = i.toInt + 1 := i32_add (by show -2147483648 ≤ i.toInt + 1; omega) (by show i.toInt + 1 ≤ 2147483647; omega)
      refine ih _ _ (by omega) (by omega) (fun h => ?_)
      rw [i64_mul10 hp (by omega), e1]
      congr 2
      omega
set_option maxHeartbeats 4000000 in
theorem sJ13_stringSize_95d88 {a : Int64} (hQ : ∀ (v : Int32) (kk : Nat), 1 ≤ kk → kk ≤ 19 → (v.toInt = kk + (if a.toInt < 0 then 1 else 0)) → -((10 : Int) ^ kk) < a.toInt → a.toInt < (10 : Int) ^ kk → Q (.inl (some (.int v))) w) : WP (MJ13_stringSize_95d88 g) Q (0, [some (.long a), none, none, none, none, none], [], w, 0, 0) := by
  have e1 : (1 : Int32).toInt = 1 := rfl
  have e0 : (0 : Int32).toInt = 0 := rfl
  have z0 : (0 : Int64).toInt = 0 := rfl
  have m10 : (-10 : Int64).toInt = -10 := by decide
  simp only [eJ13_stringSize_95d88_0, eJ13_stringSize_95d88_1, eJ13_stringSize_95d88_2, eJ13_stringSize_95d88_3, eJ13_stringSize_95d88_4, eJ13_stringSize_95d88_5, eJ13_stringSize_95d88_8, eJ13_stringSize_95d88_9, eJ13_stringSize_95d88_10, eJ13_stringSize_95d88_11, eJ13_stringSize_95d88_12, eJ13_stringSize_95d88_13, eJ13_stringSize_95d88_16, eJ13_stringSize_95d88_17, eJ13_stringSize_95d88_18, eJ13_stringSize_95d88_22, eJ13_stringSize_95d88_24, eJ13_stringSize_95d88_27, eJ13_stringSize_95d88_28, eJ13_stringSize_95d88_29, eJ13_stringSize_95d88_30, eJ13_stringSize_95d88_33, eJ13_stringSize_95d88_35, eJ13_stringSize_95d88_36, eJ13_stringSize_95d88_37, eJ13_stringSize_95d88_38, eJ13_stringSize_95d88_41, eJ13_stringSize_95d88_42, eJ13_stringSize_95d88_43, eJ13_stringSize_95d88_44, eJ13_stringSize_95d88_47, eJ13_stringSize_95d88_50, eJ13_stringSize_95d88_52, eJ13_stringSize_95d88_53, eJ13_stringSize_95d88_54, ite_le, n45, n54, true_or, or_true, false_or, or_false, false_and, and_false, kx_l, kx_r, go_s, gl_s, gi_s, gb_s2, gb_s3, gq_s, wt_nil, wt_int, wt_long, wt_ref, wt_null, nl_int, nl_long, nl_ref, nl_null, nl_none, rf_n, rf_s, rf_st, tl_s, tl_n, g0, gS, ex1, nb_b, nb_0, nb_1, nf_i, nf_l, nf_ra, nf_ro, nf_na, nf_no, nf_b0, nf_z0, t45_4, t45_5, true_and, and_true, List.set_cons_zero, List.set_cons_succ, List.length_cons, List.length_nil, rd_s, upw_s, ne_eq, not_false_eq_true, Nat.zero_add, Nat.add_zero, if_true, if_false, lg_cmp_lt]
  split
  · next h =>
    have h1 := i64_lt h
    refine lJ13_ss (by decide) (by decide) (fun v kk k1 k2 k3 k4 => hQ v kk k1 k2 (by rw [if_pos (by omega)]; omega) k4 (by have := p10p kk; omega)) 18 _ _ (by decide) (by decide) (fun _ => by rw [m10]; rfl)
  · next h =>
    have h1 := i64_nlt h
    have hn : (-a).toInt = -a.toInt := i64_neg (by omega)
    refine lJ13_ss (by decide) (by decide) (fun v kk k1 k2 k3 k4 => hQ v kk k1 k2 (by rw [if_neg (by omega)]; omega) (by have := p10p kk; omega) (by omega)) 18 _ _ (by decide) (by decide) (fun _ => by rw [m10]; rfl)
end
end
/-! 60.text2.lean.txt -/
section
section
variable {g : RO} {Q : Ot → Hw → Prop} {w0 w : Hw}
theorem DG.upd {g : RO} {w : Hw} {d : Nat} {o o' : Ob} (h : DG g w) (hd : w d = some o) : DG g (upw w d o') := by
  obtain ⟨h1, ⟨a, f, h2, h3, h4⟩, ⟨b, f', h5, h6, h7⟩⟩ := h
  refine ⟨h1, ⟨a, f, h2, h3, ?_⟩, ⟨b, f', h5, h6, ?_⟩⟩
  · rw [upw_n]
    · exact h4
    · rintro rfl
      rw [h4] at hd
      cases hd
  · rw [upw_n]
    · exact h7
    · rintro rfl
      rw [h7] at hd
      cases hd
theorem tn100 : (¬ (100 : Int32) = 0) = True := eq_true (by decide)
theorem tn100l : (¬ (100 : Int64) = 0) = True := eq_true (by decide)
theorem neg_tdiv100 {y : Int} (h : y ≤ 0) : y.tdiv 100 = -((-y) / 100) := by
  obtain ⟨n, rfl⟩ : ∃ n : Int, y = -n := ⟨-y, by omega⟩
  rw [Int.neg_tdiv, Int.tdiv_eq_ediv_of_nonneg (by omega), Int.neg_neg]
theorem i32_d100 {y : Int32} (h : y.toInt ≤ 0) : (y / 100).toInt = -((-y.toInt) / 100) := by
  have e : (100 : Int32).toInt = 100 := rfl
  have h2 := i32_bd y
  rw [Int32.toInt_div, e, neg_tdiv100 h]
  exact Int.bmod_eq_of_le (by omega) (by omega)
theorem i32_r100 {y : Int32} (h : y.toInt ≤ 0) : (y / 100 * 100 - y).toInt = -y.toInt - (-y.toInt) / 100 * 100 := by
  have e : (100 : Int32).toInt = 100 := rfl
  have h2 := i32_bd y
  have m : (y / 100 * 100).toInt = -((-y.toInt) / 100) * 100 := by
    rw [Int32.toInt_mul, e, i32_d100 h]
    exact Int.bmod_eq_of_le (by omega) (by omega)
  rw [i32_sub (by omega) (by omega), m]
  omega
theorem i64_d100 {y : Int64} (h : y.toInt ≤ 0) : (y / 100).toInt = -((-y.toInt) / 100) := by
  have e : (100 : Int64).toInt = 100 := rfl
  have h2 := i64_bd y
  rw [Int64.toInt_div, e, neg_tdiv100 h]
  exact Int.bmod_eq_of_le (by omega) (by omega)
theorem i64_r100 {y : Int64} (h : y.toInt ≤ 0) : (y / 100 * 100 - y).toInt32.toInt = -y.toInt - (-y.toInt) / 100 * 100 := by
  have e : (100 : Int64).toInt = 100 := rfl
  have h2 := i64_bd y
  have m : (y / 100 * 100).toInt = -((-y.toInt) / 100) * 100 := by
    rw [Int64.toInt_mul, e, i64_d100 h]
    exact Int.bmod_eq_of_le (by omega) (by omega)
  have s : (y / 100 * 100 - y).toInt = -y.toInt - (-y.toInt) / 100 * 100 := by
    rw [Int64.toInt_sub, m, Int.bmod_eq_of_le (by omega) (by omega)]
    omega
  rw [Int64.toInt_toInt32, s]
  exact Int.bmod_eq_of_le (by omega) (by omega)
theorem i64_i32 {y : Int64} (h : -2147483648 < y.toInt) (h2 : y.toInt ≤ 0) : y.toInt32.toInt = y.toInt := by
  rw [Int64.toInt_toInt32]
  exact Int.bmod_eq_of_le (by omega) (by omega)
theorem i32_m1 {i : Int32} (h : -2147483648 < i.toInt) : (i + -1).toInt = i.toInt - 1 := by
  have h2 := i32_bd i
  have e : (-1 : Int32).toInt = -1 := by decide
  rw [i32_add (by omega) (by omega), e]
  omega
theorem i32_ngl {y : Int32} (h : y.toInt ≤ 0) (h2 : -2147483648 < y.toInt) : (-y).toInt = -y.toInt := by
  rw [Int32.toInt_neg]
  exact Int.bmod_eq_of_le (by omega) (by omega)
theorem i32_ne0 {y : Int32} (h : ¬ y = 0) : ¬ y.toInt = 0 := fun k => h (Int32.toInt_inj.mp k)
theorem p10_3 {kk : Nat} {n : Int} (h : n < (10 : Int) ^ kk) (h2 : 100 ≤ n) : ∃ k', kk = k' + 2 ∧ 1 ≤ k' ∧ n / 100 < (10 : Int) ^ k' := by
  match kk, h with
  | 0, h => have e : (10 : Int) ^ 0 = 1 := rfl
            omega
  | 1, h => have e : (10 : Int) ^ 1 = 10 := rfl
            omega
  | 2, h => have e : (10 : Int) ^ 2 = 100 := rfl
            omega
  | k + 3, h =>
    refine ⟨k + 1, rfl, by omega, ?_⟩
    rw [p10s, p10s] at h
    omega
set_option maxHeartbeats 8000000 in
theorem lJ13_gc86 {x : Int64} {ix : Int32} {d N : Nat} (hN : N ≤ 2000) : ∀ (e kk : Nat) (y cp ng : Int32) (l4 l5 l6 l9 : Option Value) (f : Nat → Int32) (w : Hw), kk ≤ e → 1 ≤ kk → y.toInt ≤ 0 → -((10 : Int) ^ kk) < y.toInt → 0 ≤ ng.toInt → ng.toInt ≤ 1 → kk + ng.toInt ≤ cp.toInt → cp.toInt ≤ (N : Int) → w d = some (.inl (2, N, .inl f)) → bOK N f → DG g w →
    (∀ (f' : Nat → Int32) (v : Int32), bOK N f' → Q (.inl (some (.int v))) (upw w d (.inl (2, N, .inl f')))) → WP (MJ13_getChars_11360 g) Q (86, [some (.long x), none, some (.int ix), some (.ref d), l4, l5, l6, some (.int cp), some (.int ng), l9, some (.int y)], [], w, 0, 0) := by
  intro e
  induction e with
  | zero =>
    intro kk y cp ng l4 l5 l6 l9 f w h1 h2
    exfalso
    omega
  | succ e ih =>
    intro kk y cp ng l4 l5 l6 l9 f w h1 h2 h3 h4 h5 h6 h7 h8 hd hf hD hQ
    obtain ⟨hcs, ⟨a1, f1, g1, g2, g3⟩, ⟨a2, f2, g4, g5, g6⟩⟩ := id hD
    have r1 := rd_r g2 g3
    have r2 := rd_r g5 g6
    have rdd := rd_e (g := g) hd
    have n1 : a1 ≠ d := fun e => by
      rw [e, hd] at g3
      cases g3
    have n2 : a2 ≠ d := fun e => by
      rw [e, hd] at g6
      cases g6
    have e100 : (-100 : Int32).toInt = -100 := by decide
    have e9 : (-9 : Int32).toInt = -9 := by decide
    obtain ⟨p1, hp1⟩ : ∃ p1, cp + -1 = p1 := ⟨_, rfl⟩
    obtain ⟨p2, hp2⟩ : ∃ p2, p1 + -1 = p2 := ⟨_, rfl⟩
    obtain ⟨p3, hp3⟩ : ∃ p3, p2 + -1 = p3 := ⟨_, rfl⟩
    have c1 : p1.toInt = cp.toInt - 1 := by rw [← hp1]; exact i32_m1 (by omega)
    have c2 : p2.toInt = p1.toInt - 1 := by rw [← hp2]; exact i32_m1 (by omega)
    have c3 : p3.toInt = p2.toInt - 1 := by rw [← hp3]; exact i32_m1 (by omega)
    have iv1 : vp_in p1 N := vpiN (by omega) (by omega)
    rw [eJ13_getChars_11360_86]
    simp only [eJ13_getChars_11360_0, eJ13_getChars_11360_1, eJ13_getChars_11360_3, eJ13_getChars_11360_4, eJ13_getChars_11360_5, eJ13_getChars_11360_6, eJ13_getChars_11360_9, eJ13_getChars_11360_10, eJ13_getChars_11360_13, eJ13_getChars_11360_14, eJ13_getChars_11360_16, eJ13_getChars_11360_18, eJ13_getChars_11360_21, eJ13_getChars_11360_22, eJ13_getChars_11360_23, eJ13_getChars_11360_25, eJ13_getChars_11360_28, eJ13_getChars_11360_29, eJ13_getChars_11360_32, eJ13_getChars_11360_33, eJ13_getChars_11360_36, eJ13_getChars_11360_37, eJ13_getChars_11360_39, eJ13_getChars_11360_41, eJ13_getChars_11360_44, eJ13_getChars_11360_45, eJ13_getChars_11360_46, eJ13_getChars_11360_47, eJ13_getChars_11360_48, eJ13_getChars_11360_50, eJ13_getChars_11360_52, eJ13_getChars_11360_53, eJ13_getChars_11360_53N, eJ13_getChars_11360_54, eJ13_getChars_11360_57, eJ13_getChars_11360_59, eJ13_getChars_11360_62, eJ13_getChars_11360_64, eJ13_getChars_11360_65, eJ13_getChars_11360_66, eJ13_getChars_11360_66N, eJ13_getChars_11360_67, eJ13_getChars_11360_70, eJ13_getChars_11360_72, eJ13_getChars_11360_75, eJ13_getChars_11360_77, eJ13_getChars_11360_78, eJ13_getChars_11360_79, eJ13_getChars_11360_82, eJ13_getChars_11360_83, eJ13_getChars_11360_84, eJ13_getChars_11360_88, eJ13_getChars_11360_90, eJ13_getChars_11360_93, eJ13_getChars_11360_95, eJ13_getChars_11360_97, eJ13_getChars_11360_98, eJ13_getChars_11360_100, eJ13_getChars_11360_102, eJ13_getChars_11360_104, eJ13_getChars_11360_105, eJ13_getChars_11360_107, eJ13_getChars_11360_108, eJ13_getChars_11360_110, eJ13_getChars_11360_112, eJ13_getChars_11360_114, eJ13_getChars_11360_114N, eJ13_getChars_11360_115, eJ13_getChars_11360_118, eJ13_getChars_11360_120, eJ13_getChars_11360_123, eJ13_getChars_11360_125, eJ13_getChars_11360_126, eJ13_getChars_11360_127, eJ13_getChars_11360_127N, eJ13_getChars_11360_128, eJ13_getChars_11360_131, eJ13_getChars_11360_133, eJ13_getChars_11360_136, eJ13_getChars_11360_138, eJ13_getChars_11360_139, eJ13_getChars_11360_140, eJ13_getChars_11360_143, eJ13_getChars_11360_143N, eJ13_getChars_11360_144, eJ13_getChars_11360_147, eJ13_getChars_11360_149, eJ13_getChars_11360_152, eJ13_getChars_11360_154, eJ13_getChars_11360_155, eJ13_getChars_11360_156, eJ13_getChars_11360_157, eJ13_getChars_11360_159, eJ13_getChars_11360_161, eJ13_getChars_11360_164, eJ13_getChars_11360_164N, eJ13_getChars_11360_165, eJ13_getChars_11360_168, eJ13_getChars_11360_170, eJ13_getChars_11360_173, eJ13_getChars_11360_175, eJ13_getChars_11360_176, eJ13_getChars_11360_177, eJ13_getChars_11360_178, eJ13_getChars_11360_180, eJ13_getChars_11360_183, eJ13_getChars_11360_183N, eJ13_getChars_11360_184, eJ13_getChars_11360_187, eJ13_getChars_11360_189, eJ13_getChars_11360_191, eJ13_getChars_11360_192, eJ13_getChars_11360_194, ite_le, n45, n54, true_or, or_true, false_or, or_false, false_and, and_false, kx_l, kx_r, go_s, gl_s, gi_s, gb_s2, gb_s3, gq_s, wt_nil, wt_int, wt_long, wt_ref, wt_null, nl_int, nl_long, nl_ref, nl_null, nl_none, rf_n, rf_s, rf_st, tl_s, tl_n, g0, gS, ex1, nb_b, nb_0, nb_1, nf_i, nf_l, nf_ra, nf_ro, nf_na, nf_no, nf_b0, nf_z0, t45_4, t45_5, true_and, and_true, List.set_cons_zero, List.set_cons_succ, List.length_cons, List.length_nil, rd_s, upw_s, ne_eq, not_false_eq_true, Nat.zero_add, Nat.add_zero, if_true, if_false, g1, g4, r1, r2, hd, rdd, bty_2, upw2, rd_n, n1, n2, lg_cmp_gt, lg_cmp_lt, tn100, tn100l, hp1, hp2, hp3]
    split
    · next hy =>
      have hy := i32_lt hy
      have av : vp_in (-y) 100 := vpiN (by rw [i32_ngl h3 (by omega)]; omega) (by rw [i32_ngl h3 (by omega)]; omega)
      refine ⟨av, iv1, ?_⟩
      split
      · next hz =>
        have hz := i32_lt hz
        have k2 : 2 ≤ kk := by
          rcases Nat.lt_or_ge kk 2 with q | q
          · have q1 : kk = 1 := by omega
            subst q1
            have e1 : (10 : Int) ^ 1 = 10 := rfl
            omega
          · exact q
        refine ⟨av, vpiN (by omega) (by omega), ?_⟩
        split
        · repeat' first | with_reducible refine And.intro ?_ ?_ | omega
          refine hQ _ _ ?_
          repeat' first | assumption | apply bOK_up
        · next hng =>
          have := i32_ne0 hng
          refine ⟨vpiN (by omega) (by omega), ?_⟩
          repeat' first | with_reducible refine And.intro ?_ ?_ | omega
          refine hQ _ _ ?_
          repeat' first | assumption | apply bOK_up
      · split
        · repeat' first | with_reducible refine And.intro ?_ ?_ | omega
          refine hQ _ _ ?_
          repeat' first | assumption | apply bOK_up
        · next hng =>
          have := i32_ne0 hng
          refine ⟨vpiN (by omega) (by omega), ?_⟩
          repeat' first | with_reducible refine And.intro ?_ ?_ | omega
          refine hQ _ _ ?_
          repeat' first | assumption | apply bOK_up
    · next hy =>
      have hy := i32_nlt hy
      obtain ⟨k', rfl, k1, k3⟩ := p10_3 (kk := kk) (n := -y.toInt) (by omega) (by omega)
      have rr : vp_in (y / 100 * 100 - y) 100 := vpiN (by rw [i32_r100 h3]; omega) (by rw [i32_r100 h3]; omega)
      refine ⟨rr, iv1, rr, vpiN (by omega) (by omega), ?_⟩
      refine ih k' _ _ _ _ _ _ _ _ _ (by omega) k1 (by rw [i32_d100 h3]; omega) (by rw [i32_d100 h3]; omega) h5 h6 (by omega) (by omega) (upw_s _ _ _) ?_ (hD.upd hd) ?_
      · repeat' first | assumption | apply bOK_up
      · intro f' v hf'
        rw [upw2]
        exact hQ f' v hf'
set_option maxHeartbeats 8000000 in
theorem lJ13_gc24 {ix : Int32} {d N : Nat} (hN : N ≤ 2000) : ∀ (e kk : Nat) (x : Int64) (cp ng : Int32) (l4 l5 l6 : Option Value) (f : Nat → Int32) (w : Hw), kk ≤ e → 1 ≤ kk → x.toInt ≤ 0 → -((10 : Int) ^ kk) < x.toInt → 0 ≤ ng.toInt → ng.toInt ≤ 1 → kk + ng.toInt ≤ cp.toInt → cp.toInt ≤ (N : Int) → w d = some (.inl (2, N, .inl f)) → bOK N f → DG g w →
    (∀ (f' : Nat → Int32) (v : Int32), bOK N f' → Q (.inl (some (.int v))) (upw w d (.inl (2, N, .inl f')))) → WP (MJ13_getChars_11360 g) Q (24, [some (.long x), none, some (.int ix), some (.ref d), l4, l5, l6, some (.int cp), some (.int ng), none, none], [], w, 0, 0) := by
  intro e
  induction e with
  | zero =>
    intro kk x cp ng l4 l5 l6 f w h1 h2
    exfalso
    omega
  | succ e ih =>
    intro kk x cp ng l4 l5 l6 f w h1 h2 h3 h4 h5 h6 h7 h8 hd hf hD hQ
    obtain ⟨hcs, ⟨a1, f1, g1, g2, g3⟩, ⟨a2, f2, g4, g5, g6⟩⟩ := id hD
    have r1 := rd_r g2 g3
    have r2 := rd_r g5 g6
    have rdd := rd_e (g := g) hd
    have n1 : a1 ≠ d := fun e => by
      rw [e, hd] at g3
      cases g3
    have n2 : a2 ≠ d := fun e => by
      rw [e, hd] at g6
      cases g6
    have emin : (-2147483648 : Int64).toInt = -2147483648 := by decide
    obtain ⟨p1, hp1⟩ : ∃ p1, cp + -1 = p1 := ⟨_, rfl⟩
    obtain ⟨p2, hp2⟩ : ∃ p2, p1 + -1 = p2 := ⟨_, rfl⟩
    have c1 : p1.toInt = cp.toInt - 1 := by rw [← hp1]; exact i32_m1 (by omega)
    have c2 : p2.toInt = p1.toInt - 1 := by rw [← hp2]; exact i32_m1 (by omega)
    have iv1 : vp_in p1 N := vpiN (by omega) (by omega)
    rw [eJ13_getChars_11360_24]
    simp only [eJ13_getChars_11360_0, eJ13_getChars_11360_1, eJ13_getChars_11360_3, eJ13_getChars_11360_4, eJ13_getChars_11360_5, eJ13_getChars_11360_6, eJ13_getChars_11360_9, eJ13_getChars_11360_10, eJ13_getChars_11360_13, eJ13_getChars_11360_14, eJ13_getChars_11360_16, eJ13_getChars_11360_18, eJ13_getChars_11360_21, eJ13_getChars_11360_22, eJ13_getChars_11360_23, eJ13_getChars_11360_25, eJ13_getChars_11360_28, eJ13_getChars_11360_29, eJ13_getChars_11360_32, eJ13_getChars_11360_33, eJ13_getChars_11360_36, eJ13_getChars_11360_37, eJ13_getChars_11360_39, eJ13_getChars_11360_41, eJ13_getChars_11360_44, eJ13_getChars_11360_45, eJ13_getChars_11360_46, eJ13_getChars_11360_47, eJ13_getChars_11360_48, eJ13_getChars_11360_50, eJ13_getChars_11360_52, eJ13_getChars_11360_53, eJ13_getChars_11360_53N, eJ13_getChars_11360_54, eJ13_getChars_11360_57, eJ13_getChars_11360_59, eJ13_getChars_11360_62, eJ13_getChars_11360_64, eJ13_getChars_11360_65, eJ13_getChars_11360_66, eJ13_getChars_11360_66N, eJ13_getChars_11360_67, eJ13_getChars_11360_70, eJ13_getChars_11360_72, eJ13_getChars_11360_75, eJ13_getChars_11360_77, eJ13_getChars_11360_78, eJ13_getChars_11360_79, eJ13_getChars_11360_82, eJ13_getChars_11360_83, eJ13_getChars_11360_84, eJ13_getChars_11360_88, eJ13_getChars_11360_90, eJ13_getChars_11360_93, eJ13_getChars_11360_95, eJ13_getChars_11360_97, eJ13_getChars_11360_98, eJ13_getChars_11360_100, eJ13_getChars_11360_102, eJ13_getChars_11360_104, eJ13_getChars_11360_105, eJ13_getChars_11360_107, eJ13_getChars_11360_108, eJ13_getChars_11360_110, eJ13_getChars_11360_112, eJ13_getChars_11360_114, eJ13_getChars_11360_114N, eJ13_getChars_11360_115, eJ13_getChars_11360_118, eJ13_getChars_11360_120, eJ13_getChars_11360_123, eJ13_getChars_11360_125, eJ13_getChars_11360_126, eJ13_getChars_11360_127, eJ13_getChars_11360_127N, eJ13_getChars_11360_128, eJ13_getChars_11360_131, eJ13_getChars_11360_133, eJ13_getChars_11360_136, eJ13_getChars_11360_138, eJ13_getChars_11360_139, eJ13_getChars_11360_140, eJ13_getChars_11360_143, eJ13_getChars_11360_143N, eJ13_getChars_11360_144, eJ13_getChars_11360_147, eJ13_getChars_11360_149, eJ13_getChars_11360_152, eJ13_getChars_11360_154, eJ13_getChars_11360_155, eJ13_getChars_11360_156, eJ13_getChars_11360_157, eJ13_getChars_11360_159, eJ13_getChars_11360_161, eJ13_getChars_11360_164, eJ13_getChars_11360_164N, eJ13_getChars_11360_165, eJ13_getChars_11360_168, eJ13_getChars_11360_170, eJ13_getChars_11360_173, eJ13_getChars_11360_175, eJ13_getChars_11360_176, eJ13_getChars_11360_177, eJ13_getChars_11360_178, eJ13_getChars_11360_180, eJ13_getChars_11360_183, eJ13_getChars_11360_183N, eJ13_getChars_11360_184, eJ13_getChars_11360_187, eJ13_getChars_11360_189, eJ13_getChars_11360_191, eJ13_getChars_11360_192, eJ13_getChars_11360_194, ite_le, n45, n54, true_or, or_true, false_or, or_false, false_and, and_false, kx_l, kx_r, go_s, gl_s, gi_s, gb_s2, gb_s3, gq_s, wt_nil, wt_int, wt_long, wt_ref, wt_null, nl_int, nl_long, nl_ref, nl_null, nl_none, rf_n, rf_s, rf_st, tl_s, tl_n, g0, gS, ex1, nb_b, nb_0, nb_1, nf_i, nf_l, nf_ra, nf_ro, nf_na, nf_no, nf_b0, nf_z0, t45_4, t45_5, true_and, and_true, List.set_cons_zero, List.set_cons_succ, List.length_cons, List.length_nil, rd_s, upw_s, ne_eq, not_false_eq_true, Nat.zero_add, Nat.add_zero, if_true, if_false, g1, g4, r1, r2, hd, rdd, bty_2, upw2, rd_n, n1, n2, lg_cmp_gt, lg_cmp_lt, tn100, tn100l, hp1, hp2]
    split
    · next hy =>
      have hy := i64_lt hy
      have ey := i64_i32 (y := x) (by omega) h3
      exact lJ13_gc86 hN kk kk _ _ _ _ _ _ _ _ _ (Nat.le_refl _) h2 (by omega) (by omega) h5 h6 h7 h8 hd hf hD hQ
    · next hy =>
      have hy := i64_nlt hy
      obtain ⟨k', rfl, k1, k3⟩ := p10_3 (kk := kk) (n := -x.toInt) (by omega) (by omega)
      have rr : vp_in (x / 100 * 100 - x).toInt32 100 := vpiN (by rw [i64_r100 h3]; omega) (by rw [i64_r100 h3]; omega)
      refine ⟨rr, iv1, rr, vpiN (by omega) (by omega), ?_⟩
      refine ih k' _ _ _ _ _ _ _ _ (by omega) k1 (by rw [i64_d100 h3]; omega) (by rw [i64_d100 h3]; omega) h5 h6 (by omega) (by omega) (upw_s _ _ _) ?_ (hD.upd hd) ?_
      · repeat' first | assumption | apply bOK_up
      · intro f' v hf'
        rw [upw2]
        exact hQ f' v hf'
set_option maxHeartbeats 4000000 in
theorem sJ13_getChars_11360 {a : Int64} {ix : Int32} {d N kk : Nat} {f : Nat → Int32} (hN : N ≤ 2000) (k1 : 1 ≤ kk) (ha : -((10 : Int) ^ kk) < a.toInt) (hb : a.toInt < (10 : Int) ^ kk) (hi : kk + (if a.toInt < 0 then 1 else 0) ≤ ix.toInt) (hi2 : ix.toInt ≤ (N : Int)) (hd : w d = some (.inl (2, N, .inl f))) (hf : bOK N f) (hD : DG g w) (hQ : ∀ (f' : Nat → Int32) (v : Int32), bOK N f' → Q (.inl (some (.int v))) (upw w d (.inl (2, N, .inl f')))) : WP (MJ13_getChars_11360 g) Q (0, [some (.long a), none, some (.int ix), some (.ref d), none, none, none, none, none, none, none], [], w, 0, 0) := by
  have z0 : (0 : Int64).toInt = 0 := rfl
  have e1 : (1 : Int32).toInt = 1 := rfl
  have e0 : (0 : Int32).toInt = 0 := rfl
  have t1 : ((1 : Int32) = 0) = False := eq_false (by decide)
  simp only [eJ13_getChars_11360_0, eJ13_getChars_11360_1, eJ13_getChars_11360_3, eJ13_getChars_11360_4, eJ13_getChars_11360_5, eJ13_getChars_11360_6, eJ13_getChars_11360_9, eJ13_getChars_11360_10, eJ13_getChars_11360_13, eJ13_getChars_11360_14, eJ13_getChars_11360_16, eJ13_getChars_11360_18, eJ13_getChars_11360_21, eJ13_getChars_11360_22, eJ13_getChars_11360_23, eJ13_getChars_11360_25, eJ13_getChars_11360_28, eJ13_getChars_11360_29, eJ13_getChars_11360_32, eJ13_getChars_11360_33, eJ13_getChars_11360_36, eJ13_getChars_11360_37, eJ13_getChars_11360_39, eJ13_getChars_11360_41, eJ13_getChars_11360_44, eJ13_getChars_11360_45, eJ13_getChars_11360_46, eJ13_getChars_11360_47, eJ13_getChars_11360_48, eJ13_getChars_11360_50, eJ13_getChars_11360_52, eJ13_getChars_11360_53, eJ13_getChars_11360_53N, eJ13_getChars_11360_54, eJ13_getChars_11360_57, eJ13_getChars_11360_59, eJ13_getChars_11360_62, eJ13_getChars_11360_64, eJ13_getChars_11360_65, eJ13_getChars_11360_66, eJ13_getChars_11360_66N, eJ13_getChars_11360_67, eJ13_getChars_11360_70, eJ13_getChars_11360_72, eJ13_getChars_11360_75, eJ13_getChars_11360_77, eJ13_getChars_11360_78, eJ13_getChars_11360_79, eJ13_getChars_11360_82, eJ13_getChars_11360_83, eJ13_getChars_11360_84, eJ13_getChars_11360_88, eJ13_getChars_11360_90, eJ13_getChars_11360_93, eJ13_getChars_11360_95, eJ13_getChars_11360_97, eJ13_getChars_11360_98, eJ13_getChars_11360_100, eJ13_getChars_11360_102, eJ13_getChars_11360_104, eJ13_getChars_11360_105, eJ13_getChars_11360_107, eJ13_getChars_11360_108, eJ13_getChars_11360_110, eJ13_getChars_11360_112, eJ13_getChars_11360_114, eJ13_getChars_11360_114N, eJ13_getChars_11360_115, eJ13_getChars_11360_118, eJ13_getChars_11360_120, eJ13_getChars_11360_123, eJ13_getChars_11360_125, eJ13_getChars_11360_126, eJ13_getChars_11360_127, eJ13_getChars_11360_127N, eJ13_getChars_11360_128, eJ13_getChars_11360_131, eJ13_getChars_11360_133, eJ13_getChars_11360_136, eJ13_getChars_11360_138, eJ13_getChars_11360_139, eJ13_getChars_11360_140, eJ13_getChars_11360_143, eJ13_getChars_11360_143N, eJ13_getChars_11360_144, eJ13_getChars_11360_147, eJ13_getChars_11360_149, eJ13_getChars_11360_152, eJ13_getChars_11360_154, eJ13_getChars_11360_155, eJ13_getChars_11360_156, eJ13_getChars_11360_157, eJ13_getChars_11360_159, eJ13_getChars_11360_161, eJ13_getChars_11360_164, eJ13_getChars_11360_164N, eJ13_getChars_11360_165, eJ13_getChars_11360_168, eJ13_getChars_11360_170, eJ13_getChars_11360_173, eJ13_getChars_11360_175, eJ13_getChars_11360_176, eJ13_getChars_11360_177, eJ13_getChars_11360_178, eJ13_getChars_11360_180, eJ13_getChars_11360_183, eJ13_getChars_11360_183N, eJ13_getChars_11360_184, eJ13_getChars_11360_187, eJ13_getChars_11360_189, eJ13_getChars_11360_191, eJ13_getChars_11360_192, eJ13_getChars_11360_194, ite_le, n45, n54, true_or, or_true, false_or, or_false, false_and, and_false, kx_l, kx_r, go_s, gl_s, gi_s, gb_s2, gb_s3, gq_s, wt_nil, wt_int, wt_long, wt_ref, wt_null, nl_int, nl_long, nl_ref, nl_null, nl_none, rf_n, rf_s, rf_st, tl_s, tl_n, g0, gS, ex1, nb_b, nb_0, nb_1, nf_i, nf_l, nf_ra, nf_ro, nf_na, nf_no, nf_b0, nf_z0, t45_4, t45_5, true_and, and_true, List.set_cons_zero, List.set_cons_succ, List.length_cons, List.length_nil, rd_s, upw_s, ne_eq, not_false_eq_true, Nat.zero_add, Nat.add_zero, if_true, if_false, lg_cmp_gt, lg_cmp_lt, t1]
  split
  · next h =>
    have h1 := i64_lt h
    rw [if_pos (by omega)] at hi
    exact lJ13_gc24 hN kk kk _ _ _ _ _ _ _ _ (Nat.le_refl _) k1 (by omega) ha (by decide) (by decide) (by omega) hi2 hd hf hD hQ
  · next h =>
    have h1 := i64_nlt h
    have hn : (-a).toInt = -a.toInt := i64_neg (by omega)
    rw [if_neg (by omega)] at hi
    exact lJ13_gc24 hN kk kk _ _ _ _ _ _ _ _ (Nat.le_refl _) k1 (by omega) (by omega) (by decide) (by decide) (by omega) hi2 hd hf hD hQ
end
end
/-! 60.text3.lean.txt -/
section
section
variable {g : RO} {Q : Ot → Hw → Prop} {w0 w : Hw}
theorem al26 : ((2 : Nat) < 6) = True := eq_true (by decide)
/-- numbers of the JDK's own -/
def SG (g : RO) : Prop := g.1 1 = .int 1 ∧ g.1 30 = .int 2147483639 ∧ g.1 32 = .int 2147483647
theorem shl0 {a : Int32} : a <<< ((0 : Int32) &&& 31) = a := by
  have e : ((0 : Int32) &&& 31) = 0 := rfl
  rw [e]
  simp
theorem shr0 {a : Int32} : a >>> ((0 : Int32) &&& 31) = a := by
  have e : ((0 : Int32) &&& 31) = 0 := rfl
  rw [e]
  simp
theorem ofN {N : Nat} (h : N ≤ 5000) : (Int32.ofNat N).toInt = (N : Int) := Int32.toInt_ofNat_of_lt (by omega)
theorem nl_val {N : Nat} {m : Int32} (hN : N ≤ 1000) (h1 : (N : Int) < m.toInt) (h2 : m.toInt ≤ 2000) : (Int32.ofNat N + (if m - Int32.ofNat N < Int32.ofNat N + 2 then Int32.ofNat N + 2 else m - Int32.ofNat N)).toInt = max m.toInt (2 * (N : Int) + 2) := by
  have e := ofN (N := N) (by omega)
  have e2 : (2 : Int32).toInt = 2 := rfl
  have s1 : (m - Int32.ofNat N).toInt = m.toInt - N := by rw [i32_sub (by omega) (by omega), e]
  have s2 : (Int32.ofNat N + 2).toInt = (N : Int) + 2 := by rw [i32_add (by omega) (by omega), e, e2]
  split
  · next h =>
    have h3 := i32_lt h
    rw [i32_add (by omega) (by omega)]
    omega
  · next h =>
    have h3 := i32_nlt h
    rw [i32_add (by omega) (by omega)]
    omega
set_option maxHeartbeats 4000000 in
theorem sJ8_newLength_cabcc {a0 a1 a2 : Int32} (hS : SG g) (h1 : 0 < (a0 + (if a1 < a2 then a2 else a1)).toInt) (h2 : (a0 + (if a1 < a2 then a2 else a1)).toInt ≤ 2147483639) (hQ : Q (.inl (some (.int (a0 + (if a1 < a2 then a2 else a1))))) w) : WP (MJ8_newLength_cabcc g) Q (0, [some (.int a0), some (.int a1), some (.int a2), none], [], w, 0, 0) := by
  obtain ⟨s1, s2, s3⟩ := hS
  generalize hv : a0 + (if a1 < a2 then a2 else a1) = v at h1 h2 hQ
  have t1 : (0 < v) = True := lt_t h1
  have t2 : (2147483639 < v) = False := lt_f h2
  simp only [eJ8_newLength_cabcc_0, eJ8_newLength_cabcc_1, eJ8_newLength_cabcc_2, eJ8_newLength_cabcc_3, eJ8_newLength_cabcc_6, eJ8_newLength_cabcc_7, eJ8_newLength_cabcc_8, eJ8_newLength_cabcc_9, eJ8_newLength_cabcc_10, eJ8_newLength_cabcc_13, eJ8_newLength_cabcc_14, eJ8_newLength_cabcc_16, eJ8_newLength_cabcc_19, eJ8_newLength_cabcc_20, eJ8_newLength_cabcc_21, eJ8_newLength_cabcc_22, eJ8_newLength_cabcc_26, ite_le, n45, n54, true_or, or_true, false_or, or_false, false_and, and_false, kx_l, kx_r, go_s, gl_s, gi_s, gb_s2, gb_s3, gq_s, wt_nil, wt_int, wt_long, wt_ref, wt_null, nl_int, nl_long, nl_ref, nl_null, nl_none, rf_n, rf_s, rf_st, tl_s, tl_n, g0, gS, ex1, nb_b, nb_0, nb_1, nf_i, nf_l, nf_ra, nf_ro, nf_na, nf_no, nf_b0, nf_z0, t45_4, t45_5, true_and, and_true, List.set_cons_zero, List.set_cons_succ, List.length_cons, List.length_nil, rd_s, upw_s, ne_eq, not_false_eq_true, Nat.zero_add, Nat.add_zero, if_true, if_false, s2, hv, t1, t2]
  repeat' first | with_reducible refine And.intro ?_ ?_ | omega
  all_goals assumption
set_option maxHeartbeats 4000000 in
theorem sJ5_newCapacity_0f7a4 {b d N : Nat} {c ml m : Int32} {f : Nat → Int32} (hS : SG g) (rb : rd g w b = some (.inr (1, [.ref d, .int 0, .int ml, .int c]))) (rdd : rd g w d = some (.inl (2, N, .inl f))) (hN : N ≤ 1000) (h1 : (N : Int) < m.toInt) (h2 : m.toInt ≤ 2000) (hQ : ∀ v : Int32, v.toInt = max m.toInt (2 * (N : Int) + 2) → Q (.inl (some (.int v))) w) : WP (MJ5_newCapacity_0f7a4 g) Q (0, [some (.ref b), some (.int m), none, none, none, none], [], w, 0, 0) := by
  have e := nl_val hN h1 h2
  have e2 : (2 : Int32) <<< ((0 : Int32) &&& 31) = 2 := shl0
  simp only [eJ5_newCapacity_0f7a4_0, eJ5_newCapacity_0f7a4_0N, eJ5_newCapacity_0f7a4_1, eJ5_newCapacity_0f7a4_4, eJ5_newCapacity_0f7a4_5, eJ5_newCapacity_0f7a4_6, eJ5_newCapacity_0f7a4_7, eJ5_newCapacity_0f7a4_7N, eJ5_newCapacity_0f7a4_8, eJ5_newCapacity_0f7a4_11, eJ5_newCapacity_0f7a4_12, eJ5_newCapacity_0f7a4_13, eJ5_newCapacity_0f7a4_14, eJ5_newCapacity_0f7a4_15, eJ5_newCapacity_0f7a4_16, eJ5_newCapacity_0f7a4_18, eJ5_newCapacity_0f7a4_19, eJ5_newCapacity_0f7a4_21, eJ5_newCapacity_0f7a4_22, eJ5_newCapacity_0f7a4_23, eJ5_newCapacity_0f7a4_23N, eJ5_newCapacity_0f7a4_24, eJ5_newCapacity_0f7a4_27, eJ5_newCapacity_0f7a4_28, eJ5_newCapacity_0f7a4_29, eJ5_newCapacity_0f7a4_32, eJ5_newCapacity_0f7a4_34, eJ5_newCapacity_0f7a4_36, eJ5_newCapacity_0f7a4_38, eJ5_newCapacity_0f7a4_51, eJ5_newCapacity_0f7a4_53, eJ5_newCapacity_0f7a4_53N, eJ5_newCapacity_0f7a4_54, eJ5_newCapacity_0f7a4_57, eJ5_newCapacity_0f7a4_58, ite_le, n45, n54, true_or, or_true, false_or, or_false, false_and, and_false, kx_l, kx_r, go_s, gl_s, gi_s, gb_s2, gb_s3, gq_s, wt_nil, wt_int, wt_long, wt_ref, wt_null, nl_int, nl_long, nl_ref, nl_null, nl_none, rf_n, rf_s, rf_st, tl_s, tl_n, g0, gS, ex1, nb_b, nb_0, nb_1, nf_i, nf_l, nf_ra, nf_ro, nf_na, nf_no, nf_b0, nf_z0, t45_4, t45_5, true_and, and_true, List.set_cons_zero, List.set_cons_succ, List.length_cons, List.length_nil, rd_s, upw_s, ne_eq, not_false_eq_true, Nat.zero_add, Nat.add_zero, if_true, if_false, rb, rdd, exal, al26, shl0, shr0]
  repeat' first | with_reducible refine And.intro ?_ ?_ | omega
  refine sJ8_newLength_cabcc hS (by rw [e]; omega) (by rw [e]; omega) ?_
  generalize (Int32.ofNat N + (if m - Int32.ofNat N < Int32.ofNat N + 2 then Int32.ofNat N + 2 else m - Int32.ofNat N)) = v at e ⊢
  have t1 : (v = 2147483647) = False := eq_false (fun h => by
    have h3 : v.toInt = 2147483647 := by rw [h]; rfl
    omega)
  simp only [eJ5_newCapacity_0f7a4_0, eJ5_newCapacity_0f7a4_0N, eJ5_newCapacity_0f7a4_1, eJ5_newCapacity_0f7a4_4, eJ5_newCapacity_0f7a4_5, eJ5_newCapacity_0f7a4_6, eJ5_newCapacity_0f7a4_7, eJ5_newCapacity_0f7a4_7N, eJ5_newCapacity_0f7a4_8, eJ5_newCapacity_0f7a4_11, eJ5_newCapacity_0f7a4_12, eJ5_newCapacity_0f7a4_13, eJ5_newCapacity_0f7a4_14, eJ5_newCapacity_0f7a4_15, eJ5_newCapacity_0f7a4_16, eJ5_newCapacity_0f7a4_18, eJ5_newCapacity_0f7a4_19, eJ5_newCapacity_0f7a4_21, eJ5_newCapacity_0f7a4_22, eJ5_newCapacity_0f7a4_23, eJ5_newCapacity_0f7a4_23N, eJ5_newCapacity_0f7a4_24, eJ5_newCapacity_0f7a4_27, eJ5_newCapacity_0f7a4_28, eJ5_newCapacity_0f7a4_29, eJ5_newCapacity_0f7a4_32, eJ5_newCapacity_0f7a4_34, eJ5_newCapacity_0f7a4_36, eJ5_newCapacity_0f7a4_38, eJ5_newCapacity_0f7a4_51, eJ5_newCapacity_0f7a4_53, eJ5_newCapacity_0f7a4_53N, eJ5_newCapacity_0f7a4_54, eJ5_newCapacity_0f7a4_57, eJ5_newCapacity_0f7a4_58, ite_le, n45, n54, true_or, or_true, false_or, or_false, false_and, and_false, kx_l, kx_r, go_s, gl_s, gi_s, gb_s2, gb_s3, gq_s, wt_nil, wt_int, wt_long, wt_ref, wt_null, nl_int, nl_long, nl_ref, nl_null, nl_none, rf_n, rf_s, rf_st, tl_s, tl_n, g0, gS, ex1, nb_b, nb_0, nb_1, nf_i, nf_l, nf_ra, nf_ro, nf_na, nf_no, nf_b0, nf_z0, t45_4, t45_5, true_and, and_true, List.set_cons_zero, List.set_cons_succ, List.length_cons, List.length_nil, rd_s, upw_s, ne_eq, not_false_eq_true, Nat.zero_add, Nat.add_zero, if_true, if_false, rb, rdd, hS.2.2, t1, exal, al26, shl0, shr0]
  repeat' first | with_reducible refine And.intro ?_ ?_ | omega
  exact hQ v e
set_option maxHeartbeats 4000000 in
theorem sJ7_copyOf_9075b {mc ms : Nat} {a N : Nat} {v : Int32} {f : Nat → Int32} (rdd : rd g w a = some (.inl (2, N, .inl f))) (hf : bOK N f) (hN : N ≤ 1000) (h1 : (N : Int) < v.toInt) (h2 : v.toInt ≤ 3000) (hmc : 1 ≤ mc) (hms : v.toInt ≤ (ms : Int)) (hQ : ∀ (q : Nat) (f' : Nat → Int32), rd g w q = none → bOK v.toNatClampNeg f' → Q (.inl (some (.ref q))) (upw w q (.inl (2, v.toNatClampNeg, .inl f')))) : WP (MJ7_copyOf_9075b g mc ms) Q (0, [some (.ref a), some (.int v), none], [], w, 0, 0) := by
  have e := ofN (N := N) (by omega)
  have ev : v.toNatClampNeg = v.toInt.toNat := rfl
  have t1 : (v = Int32.ofNat N) = False := eq_false (fun h => by
    have h3 : v.toInt = (Int32.ofNat N).toInt := by rw [h]
    omega)
  have t2 : (v < 0) = False := lt_f (by show (0 : Int) ≤ v.toInt; omega)
  have t3 : (v < Int32.ofNat N) = False := lt_f (by omega)
  have t4 : (Int32.ofNat N < 0) = False := lt_f (by show (0 : Int) ≤ _; omega)
  have en : (Int32.ofNat N).toNatClampNeg = N := by
    show (Int32.ofNat N).toInt.toNat = N
    omega
  have z0 : ((0 : Int32) < 0) = False := eq_false (by decide)
  have zn : (0 : Int32).toNatClampNeg = 0 := rfl
  simp only [eJ7_copyOf_9075b_0, eJ7_copyOf_9075b_1, eJ7_copyOf_9075b_1N, eJ7_copyOf_9075b_2, eJ7_copyOf_9075b_3, eJ7_copyOf_9075b_6, eJ7_copyOf_9075b_6N, eJ7_copyOf_9075b_7, eJ7_copyOf_9075b_10N, eJ7_copyOf_9075b_10R, eJ7_copyOf_9075b_13, eJ7_copyOf_9075b_14, eJ7_copyOf_9075b_15, eJ7_copyOf_9075b_17, eJ7_copyOf_9075b_17N, eJ7_copyOf_9075b_18, eJ7_copyOf_9075b_18N, eJ7_copyOf_9075b_19, eJ7_copyOf_9075b_20, eJ7_copyOf_9075b_20N, eJ7_copyOf_9075b_21, eJ7_copyOf_9075b_22, eJ7_copyOf_9075b_22N, eJ7_copyOf_9075b_23, eJ7_copyOf_9075b_24, eJ7_copyOf_9075b_25, eJ7_copyOf_9075b_28O, eJ7_copyOf_9075b_28B, eJ7_copyOf_9075b_31, eJ7_copyOf_9075b_31N, eJ7_copyOf_9075b_32, ite_le, n45, n54, true_or, or_true, false_or, or_false, false_and, and_false, kx_l, kx_r, go_s, gl_s, gi_s, gb_s2, gb_s3, gq_s, wt_nil, wt_int, wt_long, wt_ref, wt_null, nl_int, nl_long, nl_ref, nl_null, nl_none, rf_n, rf_s, rf_st, tl_s, tl_n, g0, gS, ex1, nb_b, nb_0, nb_1, nf_i, nf_l, nf_ra, nf_ro, nf_na, nf_no, nf_b0, nf_z0, t45_4, t45_5, true_and, and_true, List.set_cons_zero, List.set_cons_succ, List.length_cons, List.length_nil, rd_s, upw_s, ne_eq, not_false_eq_true, Nat.zero_add, Nat.add_zero, if_true, if_false, rdd, exal, al26, t1, t2]
  repeat' first | with_reducible refine And.intro ?_ ?_ | omega
  intro q hq
  have hne : a ≠ q := fun h => by
    subst h
    rw [rdd] at hq
    cases hq
  have ra : rd g (upw w q (.inl (2, v.toNatClampNeg, .inl fun _ => 0))) a = some (.inl (2, N, .inl f)) := by rw [rd_n hne]; exact rdd
  simp only [eJ7_copyOf_9075b_0, eJ7_copyOf_9075b_1, eJ7_copyOf_9075b_1N, eJ7_copyOf_9075b_2, eJ7_copyOf_9075b_3, eJ7_copyOf_9075b_6, eJ7_copyOf_9075b_6N, eJ7_copyOf_9075b_7, eJ7_copyOf_9075b_10N, eJ7_copyOf_9075b_10R, eJ7_copyOf_9075b_13, eJ7_copyOf_9075b_14, eJ7_copyOf_9075b_15, eJ7_copyOf_9075b_17, eJ7_copyOf_9075b_17N, eJ7_copyOf_9075b_18, eJ7_copyOf_9075b_18N, eJ7_copyOf_9075b_19, eJ7_copyOf_9075b_20, eJ7_copyOf_9075b_20N, eJ7_copyOf_9075b_21, eJ7_copyOf_9075b_22, eJ7_copyOf_9075b_22N, eJ7_copyOf_9075b_23, eJ7_copyOf_9075b_24, eJ7_copyOf_9075b_25, eJ7_copyOf_9075b_28O, eJ7_copyOf_9075b_28B, eJ7_copyOf_9075b_31, eJ7_copyOf_9075b_31N, eJ7_copyOf_9075b_32, ite_le, n45, n54, true_or, or_true, false_or, or_false, false_and, and_false, kx_l, kx_r, go_s, gl_s, gi_s, gb_s2, gb_s3, gq_s, wt_nil, wt_int, wt_long, wt_ref, wt_null, nl_int, nl_long, nl_ref, nl_null, nl_none, rf_n, rf_s, rf_st, tl_s, tl_n, g0, gS, ex1, nb_b, nb_0, nb_1, nf_i, nf_l, nf_ra, nf_ro, nf_na, nf_no, nf_b0, nf_z0, t45_4, t45_5, true_and, and_true, List.set_cons_zero, List.set_cons_succ, List.length_cons, List.length_nil, rd_s, upw_s, ne_eq, not_false_eq_true, Nat.zero_add, Nat.add_zero, if_true, if_false, ra, exal, al26, t1, t2, t3, t4, z0, en, zn, upw2, eJ7_copyOf_9075b_28B ra (upw_s _ _ _)]
  repeat' first | with_reducible refine And.intro ?_ ?_ | omega
  · intro j hj
    exact hf j (by omega)
  · exact hQ q _ hq (bOK_cpy (N0 := N) hf (bOK_0 _) (by omega))
end
end
/-! 60.text4.lean.txt -/
section
section
variable {g : RO} {Q : Ot → Hw → Prop} {w0 w : Hw}
/-- a builder: its row of bytes d has N places, c are taken -/
def SBo (w : Hw) (b d N : Nat) (c : Int32) : Prop := ∃ (ml : Int32) (f : Nat → Int32), w b = some (.inr (1, [.ref d, .int 0, .int ml, .int c])) ∧ w d = some (.inl (2, N, .inl f)) ∧ bOK N f ∧ 0 ≤ c.toInt ∧ c.toInt ≤ (N : Int)
/-- .. made since w0 -/
def TS (g : RO) (w0 : Hw) (b d N : Nat) (c : Int32) (w : Hw) : Prop := ext g w0 w ∧ (w0 b = none ∧ w0 d = none ∧ g.2 b = none ∧ g.2 d = none) ∧ SBo w b d N c
theorem ext.own {g : RO} {w0 w : Hw} {a : Nat} {o : Ob} (h : ext g w0 w) (h1 : w0 a = none) (h2 : g.2 a = none) : ext g w0 (upw w a o) := by
  refine ⟨fun q o' z => ?_, fun q o' z1 z2 => ?_⟩
  · rw [upw_n]
    · exact h.1 q o' z
    · rintro rfl
      rw [h1] at z
      cases z
  · rw [upw_n]
    · exact h.2 q o' z1 z2
    · rintro rfl
      rw [h2] at z1
      cases z1
theorem TS.opn {w0 w : Hw} {b d N : Nat} {c : Int32} (g : RO) (h : TS g w0 b d N c w) : ∃ (ml : Int32) (f : Nat → Int32), w b = some (.inr (1, [.ref d, .int 0, .int ml, .int c])) ∧ w d = some (.inl (2, N, .inl f)) ∧ bOK N f ∧ 0 ≤ c.toInt ∧ c.toInt ≤ (N : Int) ∧ rd g w b = some (.inr (1, [.ref d, .int 0, .int ml, .int c])) ∧ rd g w d = some (.inl (2, N, .inl f)) ∧ b ≠ d ∧ d ≠ b := by
  obtain ⟨-, -, ml, f, h1, h2, h3, h4, h5⟩ := h
  have hne : b ≠ d := fun e => by
    rw [e, h2] at h1
    cases h1
  exact ⟨ml, f, h1, h2, h3, h4, h5, rd_e h1, rd_e h2, hne, hne.symm⟩
/-- bytes written, the count set -/
theorem TS.fin {w0 w : Hw} {b d N : Nat} {c c' ml : Int32} {f' : Nat → Int32} (h : TS g w0 b d N c w) (hf : bOK N f') (h0 : 0 ≤ c'.toInt) (h1 : c'.toInt ≤ (N : Int)) : TS g w0 b d N c' (upw (upw w d (.inl (2, N, .inl f'))) b (.inr (1, [.ref d, .int 0, .int ml, .int c']))) := by
  obtain ⟨-, -, -, -, -, -, -, -, -, n1, n2⟩ := h.opn g
  exact ⟨(h.1.own h.2.1.2.1 h.2.1.2.2.2).own h.2.1.1 h.2.1.2.2.1, h.2.1, ml, f', upw_s _ _ _, by rw [upw_n n2]; exact upw_s _ _ _, hf, h0, h1⟩
/-- the count set, then bytes written -/
theorem TS.fin2 {w0 w : Hw} {b d N : Nat} {c c' ml : Int32} {f' : Nat → Int32} (h : TS g w0 b d N c w) (hf : bOK N f') (h0 : 0 ≤ c'.toInt) (h1 : c'.toInt ≤ (N : Int)) : TS g w0 b d N c' (upw (upw w b (.inr (1, [.ref d, .int 0, .int ml, .int c']))) d (.inl (2, N, .inl f'))) := by
  obtain ⟨-, -, -, -, -, -, -, -, -, n1, n2⟩ := h.opn g
  exact ⟨(h.1.own h.2.1.1 h.2.1.2.2.1).own h.2.1.2.1 h.2.1.2.2.2, h.2.1, ml, f', by rw [upw_n n1]; exact upw_s _ _ _, upw_s _ _ _, hf, h0, h1⟩
/-- a wider row of bytes -/
theorem TS.wide {w0 w : Hw} {b d N N' q : Nat} {c ml : Int32} {f' : Nat → Int32} (h : TS g w0 b d N c w) (hq : rd g w q = none) (hf : bOK N' f') (h1 : c.toInt ≤ (N' : Int)) : TS g w0 b q N' c (upw (upw w q (.inl (2, N', .inl f'))) b (.inr (1, [.ref q, .int 0, .int ml, .int c]))) := by
  obtain ⟨ml0, f0, e1, -, -, h0, -, -, -, n1, n2⟩ := h.opn g
  have hqn := rd_none hq
  have hqw : w0 q = none := by
    cases hz : w0 q with
    | none => rfl
    | some o =>
      have := h.1.1 q o hz
      rw [hqn] at this
      cases this
  have hqb : q ≠ b := fun e => by
    rw [e, e1] at hqn
    cases hqn
  exact ⟨(h.1.own hqw (rd_ro hq)).own h.2.1.1 h.2.1.2.2.1, ⟨h.2.1.1, hqw, h.2.1.2.2.1, rd_ro hq⟩, ml, f', upw_s _ _ _, by rw [upw_n hqb]; exact upw_s _ _ _, hf, h0, h1⟩
theorem sbCap_v {w : Hw} {b d N : Nat} {c ml : Int32} {f : Nat → Int32} (h1 : w b = some (.inr (1, [.ref d, .int 0, .int ml, .int c]))) (h2 : w d = some (.inl (2, N, .inl f))) : sbCap w b = N := by
  simp only [sbCap, h1, h2]
theorem sbCnt_v {w : Hw} {b d : Nat} {c ml : Int32} (h1 : w b = some (.inr (1, [.ref d, .int 0, .int ml, .int c]))) : sbCnt w b = c := by
  simp only [sbCnt, h1]
theorem kfE_v {w : Hw} {b : Nat} {m : Int32} : kfE [.ref b, .int m] w = if sbCap w b < m.toNatClampNeg then 1 else 0 := rfl
theorem sfE_v {w : Hw} {b : Nat} {m : Int32} : sfE [.ref b, .int m] w = if sbCap w b < m.toNatClampNeg then max m.toNatClampNeg (2 * sbCap w b + 2) else 0 := rfl
theorem kfI_v {w : Hw} {b : Nat} {m : Int32} : kfI [.ref b, .int m] w = kfE [.ref b, .int (sbCnt w b + 1)] w := rfl
theorem sfI_v {w : Hw} {b : Nat} {m : Int32} : sfI [.ref b, .int m] w = sfE [.ref b, .int (sbCnt w b + 1)] w := rfl
theorem kfG_v {w : Hw} {a : Nat} {v : Int32} : kfG [.ref a, .int v] w = 1 := rfl
theorem sfC_v {w : Hw} {a : Nat} {v : Int32} : sfC [.ref a, .int v] w = v.toNatClampNeg := rfl
set_option maxHeartbeats 4000000 in
theorem sJ5_ensureCapacityInternal_d00df {mc ms : Nat} {b d N : Nat} {c m : Int32} (hS : SG g) (hT : TS g w0 b d N c w) (hN : N ≤ 1000) (h0 : 0 ≤ m.toInt) (h2 : m.toInt ≤ 2000) (hmc : (N : Int) < m.toInt → 1 ≤ mc ∧ max m.toInt (2 * (N : Int) + 2) ≤ (ms : Int)) (hQ1 : m.toInt ≤ (N : Int) → Q (.inl none) w) (hQ2 : ∀ (d' N' : Nat) (w' : Hw), (N : Int) < m.toInt → (N' : Int) = max m.toInt (2 * (N : Int) + 2) → TS g w0 b d' N' c w' → Q (.inl none) w') : WP (MJ5_ensureCapacityInternal_d00df g mc ms) Q (0, [some (.ref b), some (.int m), none], [], w, 0, 0) := by
  obtain ⟨ml, f, hb, hd, hf, hc0, hc1, rb, rdd, n1, n2⟩ := hT.opn g
  have e := ofN (N := N) (by omega)
  have s1 : (m - Int32.ofNat N).toInt = m.toInt - N := by rw [i32_sub (by omega) (by omega), e]
  have z0 : (0 : Int32).toInt = 0 := rfl
  simp only [eJ5_ensureCapacityInternal_d00df_0, eJ5_ensureCapacityInternal_d00df_0N, eJ5_ensureCapacityInternal_d00df_1, eJ5_ensureCapacityInternal_d00df_4, eJ5_ensureCapacityInternal_d00df_5, eJ5_ensureCapacityInternal_d00df_5N, eJ5_ensureCapacityInternal_d00df_6, eJ5_ensureCapacityInternal_d00df_9, eJ5_ensureCapacityInternal_d00df_10, eJ5_ensureCapacityInternal_d00df_11, eJ5_ensureCapacityInternal_d00df_12, eJ5_ensureCapacityInternal_d00df_13, eJ5_ensureCapacityInternal_d00df_14, eJ5_ensureCapacityInternal_d00df_17, eJ5_ensureCapacityInternal_d00df_17N, eJ5_ensureCapacityInternal_d00df_18, eJ5_ensureCapacityInternal_d00df_18N, eJ5_ensureCapacityInternal_d00df_19, eJ5_ensureCapacityInternal_d00df_22, eJ5_ensureCapacityInternal_d00df_22N, eJ5_ensureCapacityInternal_d00df_23, eJ5_ensureCapacityInternal_d00df_24, eJ5_ensureCapacityInternal_d00df_27, eJ5_ensureCapacityInternal_d00df_27N, eJ5_ensureCapacityInternal_d00df_28, eJ5_ensureCapacityInternal_d00df_31, eJ5_ensureCapacityInternal_d00df_32R, eJ5_ensureCapacityInternal_d00df_32N, eJ5_ensureCapacityInternal_d00df_35, eJ5_ensureCapacityInternal_d00df_38, ite_le, n45, n54, true_or, or_true, false_or, or_false, false_and, and_false, kx_l, kx_r, go_s, gl_s, gi_s, gb_s2, gb_s3, gq_s, wt_nil, wt_int, wt_long, wt_ref, wt_null, nl_int, nl_long, nl_ref, nl_null, nl_none, rf_n, rf_s, rf_st, tl_s, tl_n, g0, gS, ex1, nb_b, nb_0, nb_1, nf_i, nf_l, nf_ra, nf_ro, nf_na, nf_no, nf_b0, nf_z0, t45_4, t45_5, true_and, and_true, List.set_cons_zero, List.set_cons_succ, List.length_cons, List.length_nil, rd_s, upw_s, ne_eq, not_false_eq_true, Nat.zero_add, Nat.add_zero, if_true, if_false, rb, rdd, exal, al26, shr0]
  split
  · next hlt =>
    have hlt := i32_lt hlt
    obtain ⟨m1, m2⟩ := hmc (by omega)
    repeat' first | with_reducible refine And.intro ?_ ?_ | omega
    all_goals try exact trivial
    refine sJ5_newCapacity_0f7a4 hS rb rdd hN (by omega) h2 fun v hv => ?_
    simp only [eJ5_ensureCapacityInternal_d00df_0, eJ5_ensureCapacityInternal_d00df_0N, eJ5_ensureCapacityInternal_d00df_1, eJ5_ensureCapacityInternal_d00df_4, eJ5_ensureCapacityInternal_d00df_5, eJ5_ensureCapacityInternal_d00df_5N, eJ5_ensureCapacityInternal_d00df_6, eJ5_ensureCapacityInternal_d00df_9, eJ5_ensureCapacityInternal_d00df_10, eJ5_ensureCapacityInternal_d00df_11, eJ5_ensureCapacityInternal_d00df_12, eJ5_ensureCapacityInternal_d00df_13, eJ5_ensureCapacityInternal_d00df_14, eJ5_ensureCapacityInternal_d00df_17, eJ5_ensureCapacityInternal_d00df_17N, eJ5_ensureCapacityInternal_d00df_18, eJ5_ensureCapacityInternal_d00df_18N, eJ5_ensureCapacityInternal_d00df_19, eJ5_ensureCapacityInternal_d00df_22, eJ5_ensureCapacityInternal_d00df_22N, eJ5_ensureCapacityInternal_d00df_23, eJ5_ensureCapacityInternal_d00df_24, eJ5_ensureCapacityInternal_d00df_27, eJ5_ensureCapacityInternal_d00df_27N, eJ5_ensureCapacityInternal_d00df_28, eJ5_ensureCapacityInternal_d00df_31, eJ5_ensureCapacityInternal_d00df_32R, eJ5_ensureCapacityInternal_d00df_32N, eJ5_ensureCapacityInternal_d00df_35, eJ5_ensureCapacityInternal_d00df_38, ite_le, n45, n54, true_or, or_true, false_or, or_false, false_and, and_false, kx_l, kx_r, go_s, gl_s, gi_s, gb_s2, gb_s3, gq_s, wt_nil, wt_int, wt_long, wt_ref, wt_null, nl_int, nl_long, nl_ref, nl_null, nl_none, rf_n, rf_s, rf_st, tl_s, tl_n, g0, gS, ex1, nb_b, nb_0, nb_1, nf_i, nf_l, nf_ra, nf_ro, nf_na, nf_no, nf_b0, nf_z0, t45_4, t45_5, true_and, and_true, List.set_cons_zero, List.set_cons_succ, List.length_cons, List.length_nil, rd_s, upw_s, ne_eq, not_false_eq_true, Nat.zero_add, Nat.add_zero, if_true, if_false, rb, rdd, shl0, exal, al26]
    repeat' first | with_reducible refine And.intro ?_ ?_ | omega
    all_goals try (rw [kfG_v])
    all_goals try (rw [sfC_v])
    all_goals try (show _ ≤ _; have ev : v.toNatClampNeg = v.toInt.toNat := rfl; omega)
    refine sJ7_copyOf_9075b rdd hf hN (by omega) (by omega) (Nat.le_refl _) (by have ev : v.toNatClampNeg = v.toInt.toNat := rfl; omega) fun q f' hq hf' => ?_
    have hqn := rd_none hq
    have hqb : b ≠ q := fun e => by
      rw [← e, hb] at hqn
      cases hqn
    simp only [eJ5_ensureCapacityInternal_d00df_0, eJ5_ensureCapacityInternal_d00df_0N, eJ5_ensureCapacityInternal_d00df_1, eJ5_ensureCapacityInternal_d00df_4, eJ5_ensureCapacityInternal_d00df_5, eJ5_ensureCapacityInternal_d00df_5N, eJ5_ensureCapacityInternal_d00df_6, eJ5_ensureCapacityInternal_d00df_9, eJ5_ensureCapacityInternal_d00df_10, eJ5_ensureCapacityInternal_d00df_11, eJ5_ensureCapacityInternal_d00df_12, eJ5_ensureCapacityInternal_d00df_13, eJ5_ensureCapacityInternal_d00df_14, eJ5_ensureCapacityInternal_d00df_17, eJ5_ensureCapacityInternal_d00df_17N, eJ5_ensureCapacityInternal_d00df_18, eJ5_ensureCapacityInternal_d00df_18N, eJ5_ensureCapacityInternal_d00df_19, eJ5_ensureCapacityInternal_d00df_22, eJ5_ensureCapacityInternal_d00df_22N, eJ5_ensureCapacityInternal_d00df_23, eJ5_ensureCapacityInternal_d00df_24, eJ5_ensureCapacityInternal_d00df_27, eJ5_ensureCapacityInternal_d00df_27N, eJ5_ensureCapacityInternal_d00df_28, eJ5_ensureCapacityInternal_d00df_31, eJ5_ensureCapacityInternal_d00df_32R, eJ5_ensureCapacityInternal_d00df_32N, eJ5_ensureCapacityInternal_d00df_35, eJ5_ensureCapacityInternal_d00df_38, ite_le, n45, n54, true_or, or_true, false_or, or_false, false_and, and_false, kx_l, kx_r, go_s, gl_s, gi_s, gb_s2, gb_s3, gq_s, wt_nil, wt_int, wt_long, wt_ref, wt_null, nl_int, nl_long, nl_ref, nl_null, nl_none, rf_n, rf_s, rf_st, tl_s, tl_n, g0, gS, ex1, nb_b, nb_0, nb_1, nf_i, nf_l, nf_ra, nf_ro, nf_na, nf_no, nf_b0, nf_z0, t45_4, t45_5, true_and, and_true, List.set_cons_zero, List.set_cons_succ, List.length_cons, List.length_nil, rd_s, upw_s, ne_eq, not_false_eq_true, Nat.zero_add, Nat.add_zero, if_true, if_false, hb, hqb, upw_n, tyJ4, nf_ra]
    repeat' first | with_reducible refine And.intro ?_ ?_ | omega
    all_goals try (have ev : v.toNatClampNeg = v.toInt.toNat := rfl; omega)
    refine hQ2 q v.toNatClampNeg _ (by omega) (by have ev : v.toNatClampNeg = v.toInt.toNat := rfl; omega) (hT.wide hq hf' (by have ev : v.toNatClampNeg = v.toInt.toNat := rfl; omega))
  · next hlt =>
    have hlt := i32_nlt hlt
    repeat' first | with_reducible refine And.intro ?_ ?_ | omega
    exact hQ1 (by omega)
end
end
/-! 60.text5.lean.txt -/
section
section
variable {g : RO} {Q : Ot → Hw → Prop} {w0 w : Hw}
theorem zz1 : ((1 : Int32) = 0) = False := eq_false (by decide)
theorem i32_p1 {c : Int32} (h0 : 0 ≤ c.toInt) (h : c.toInt ≤ 2000) : (c + 1).toInt = c.toInt + 1 := i32_add (by show -2147483648 ≤ c.toInt + 1; omega) (by show c.toInt + 1 ≤ 2147483647; omega)
theorem kE {w : Hw} {b d N : Nat} {c m ml : Int32} {f : Nat → Int32} (h1 : w b = some (.inr (1, [.ref d, .int 0, .int ml, .int c]))) (h2 : w d = some (.inl (2, N, .inl f))) (h0 : 0 ≤ m.toInt) : (kfE [.ref b, .int m] w = if (N : Int) < m.toInt then 1 else 0) ∧ ((sfE [.ref b, .int m] w : Nat) : Int) = if (N : Int) < m.toInt then max m.toInt (2 * (N : Int) + 2) else 0 := by
  have em : m.toNatClampNeg = m.toInt.toNat := rfl
  rw [kfE_v, sfE_v, sbCap_v h1 h2, em]
  by_cases h : (N : Int) < m.toInt
  · rw [if_pos h, if_pos h, if_pos (by omega), if_pos (by omega)]
    exact ⟨rfl, by omega⟩
  · rw [if_neg h, if_neg h, if_neg (by omega), if_neg (by omega)]
    exact ⟨rfl, rfl⟩
set_option maxHeartbeats 4000000 in
theorem lJ5_append_3fe6f_10 {mc ms k n : Nat} {b d N : Nat} {c ch : Int32} (hS : SG g) (hT : TS g w0 b d N c w) (hN : N ≤ 1000) (hch : (255 < ch) = False) (hlt : c.toInt + 1 ≤ (N : Int)) (hk : k ≤ mc) (hn : n ≤ ms) (hQ : ∀ w', TS g w0 b d N (c + 1) w' → Q (.inl (some (.ref b))) w') : WP (MJ5_append_3fe6f g mc ms) Q (10, [some (.ref b), some (.int ch)], [], w, k, n) := by
  obtain ⟨ml, f, hb, hd, hf, hc0, hc1, rb, rdd, n1, n2⟩ := hT.opn g
  have cv : vp_in c N := vpiN hc0 (by omega)
  have e1 := i32_p1 hc0 (by omega)
  simp only [eJ5_append_3fe6f_10, eJ5_append_3fe6f_10N, eJ5_append_3fe6f_11, eJ5_append_3fe6f_14, eJ5_append_3fe6f_17, eJ5_append_3fe6f_18, eJ5_append_3fe6f_21, eJ5_append_3fe6f_24, eJ5_append_3fe6f_24N, eJ5_append_3fe6f_25, eJ5_append_3fe6f_28, eJ5_append_3fe6f_28N, eJ5_append_3fe6f_29, eJ5_append_3fe6f_29R, eJ5_append_3fe6f_30, eJ5_append_3fe6f_33IR, eJ5_append_3fe6f_33RR, eJ5_append_3fe6f_34, eJ5_append_3fe6f_35, eJ5_append_3fe6f_36, eJ5_append_3fe6f_39, eJ5_append_3fe6f_40, eJ5_append_3fe6f_41, eJ5_append_3fe6f_42, eJ5_append_3fe6f_45, eJ5_append_3fe6f_45N, eJ5_append_3fe6f_46, eJ5_append_3fe6f_49, eJ5_append_3fe6f_52, eJ5_append_3fe6f_52N, eJ5_append_3fe6f_56, eJ5_append_3fe6f_56N, eJ5_append_3fe6f_57, eJ5_append_3fe6f_60, eJ5_append_3fe6f_60N, eJ5_append_3fe6f_61, eJ5_append_3fe6f_61R, eJ5_append_3fe6f_62, eJ5_append_3fe6f_65IR, eJ5_append_3fe6f_65RR, eJ5_append_3fe6f_66, eJ5_append_3fe6f_67, eJ5_append_3fe6f_68, eJ5_append_3fe6f_71, eJ5_append_3fe6f_75, eJ5_append_3fe6f_75N, eJ5_append_3fe6f_76, eJ5_append_3fe6f_76N, eJ5_isLatin1_aae02_0, eJ5_isLatin1_aae02_3, eJ5_isLatin1_aae02_6, eJ5_isLatin1_aae02_6N, eJ5_isLatin1_aae02_7, eJ5_isLatin1_aae02_10, eJ5_isLatin1_aae02_13, eJ5_isLatin1_aae02_14, eJ5_isLatin1_aae02_17, eJ5_isLatin1_aae02_18, eJ1_canEncode_fc78d_0, eJ1_canEncode_fc78d_1, eJ1_canEncode_fc78d_4, eJ1_canEncode_fc78d_7, eJ1_canEncode_fc78d_8, eJ1_canEncode_fc78d_11, eJ1_canEncode_fc78d_12, ite_le, n45, n54, true_or, or_true, false_or, or_false, false_and, and_false, kx_l, kx_r, go_s, gl_s, gi_s, gb_s2, gb_s3, gq_s, wt_nil, wt_int, wt_long, wt_ref, wt_null, nl_int, nl_long, nl_ref, nl_null, nl_none, rf_n, rf_s, rf_st, tl_s, tl_n, g0, gS, ex1, nb_b, nb_0, nb_1, nf_i, nf_l, nf_ra, nf_ro, nf_na, nf_no, nf_b0, nf_z0, t45_4, t45_5, true_and, and_true, List.set_cons_zero, List.set_cons_succ, List.length_cons, List.length_nil, rd_s, upw_s, ne_eq, not_false_eq_true, Nat.zero_add, Nat.add_zero, if_true, if_false, eq_self, hS.1, zz1, hch, rb, hb, rdd, hd, n1, n2, upw_n, rd_n, bty_2, cv, exal, al26]
  repeat' first | with_reducible refine And.intro ?_ ?_ | omega
  exact hQ _ (hT.fin2 (bOK_up hf _ _) (by omega) (by omega))
set_option maxHeartbeats 4000000 in
theorem sJ5_append_3fe6f {mc ms : Nat} {b d N : Nat} {c ch : Int32} (hS : SG g) (hT : TS g w0 b d N c w) (hN : N ≤ 400) (hch : (255 < ch) = False) (hmc : (N : Int) < c.toInt + 1 → 1 ≤ mc ∧ max (c.toInt + 1) (2 * (N : Int) + 2) ≤ (ms : Int)) (hQ1 : ∀ w', c.toInt + 1 ≤ (N : Int) → TS g w0 b d N (c + 1) w' → Q (.inl (some (.ref b))) w') (hQ2 : ∀ (d' N' : Nat) (w' : Hw), (N : Int) < c.toInt + 1 → (N' : Int) = max (c.toInt + 1) (2 * (N : Int) + 2) → TS g w0 b d' N' (c + 1) w' → Q (.inl (some (.ref b))) w') : WP (MJ5_append_3fe6f g mc ms) Q (0, [some (.ref b), some (.int ch)], [], w, 0, 0) := by
  obtain ⟨ml, f, hb, hd, hf, hc0, hc1, rb, rdd, n1, n2⟩ := hT.opn g
  have e1 := i32_p1 hc0 (by omega)
  obtain ⟨eK, eS⟩ := kE (m := c + 1) hb hd (by omega)
  have hk : kfE [.ref b, .int (c + 1)] w ≤ mc := by
    rw [eK]
    split
    · exact (hmc (by omega)).1
    · exact Nat.zero_le _
  have hs : sfE [.ref b, .int (c + 1)] w ≤ ms := by
    split at eS
    · have := (hmc (by omega)).2
      omega
    · omega
  simp only [eJ5_append_3fe6f_0, eJ5_append_3fe6f_0N, eJ5_append_3fe6f_1, eJ5_append_3fe6f_1N, eJ5_append_3fe6f_2, eJ5_append_3fe6f_5, eJ5_append_3fe6f_6, eJ5_append_3fe6f_7, ite_le, n45, n54, true_or, or_true, false_or, or_false, false_and, and_false, kx_l, kx_r, go_s, gl_s, gi_s, gb_s2, gb_s3, gq_s, wt_nil, wt_int, wt_long, wt_ref, wt_null, nl_int, nl_long, nl_ref, nl_null, nl_none, rf_n, rf_s, rf_st, tl_s, tl_n, g0, gS, ex1, nb_b, nb_0, nb_1, nf_i, nf_l, nf_ra, nf_ro, nf_na, nf_no, nf_b0, nf_z0, t45_4, t45_5, true_and, and_true, List.set_cons_zero, List.set_cons_succ, List.length_cons, List.length_nil, rd_s, upw_s, ne_eq, not_false_eq_true, Nat.zero_add, Nat.add_zero, if_true, if_false, eq_self, rb, hb, hk, hs]
  repeat' first | with_reducible refine And.intro ?_ ?_ | omega
  refine sJ5_ensureCapacityInternal_d00df hS hT (by omega) (by omega) (by omega) (fun h => ⟨by rw [eK, if_pos h]; exact Nat.le_refl _, by rw [eS, if_pos h]; exact Int.le_refl _⟩) (fun h => ?_) (fun d' N' w' h1 h2 hT' => ?_)
  · simp only [eJ5_append_3fe6f_0, eJ5_append_3fe6f_0N, eJ5_append_3fe6f_1, eJ5_append_3fe6f_1N, eJ5_append_3fe6f_2, eJ5_append_3fe6f_5, eJ5_append_3fe6f_6, eJ5_append_3fe6f_7, ite_le, n45, n54, true_or, or_true, false_or, or_false, false_and, and_false, kx_l, kx_r, go_s, gl_s, gi_s, gb_s2, gb_s3, gq_s, wt_nil, wt_int, wt_long, wt_ref, wt_null, nl_int, nl_long, nl_ref, nl_null, nl_none, rf_n, rf_s, rf_st, tl_s, tl_n, g0, gS, ex1, nb_b, nb_0, nb_1, nf_i, nf_l, nf_ra, nf_ro, nf_na, nf_no, nf_b0, nf_z0, t45_4, t45_5, true_and, and_true, List.set_cons_zero, List.set_cons_succ, List.length_cons, List.length_nil, rd_s, upw_s, ne_eq, not_false_eq_true, Nat.zero_add, Nat.add_zero, if_true, if_false, eq_self]
    exact lJ5_append_3fe6f_10 hS hT (by omega) hch (by omega) (by omega) (by omega) (fun w' z => hQ1 w' (by omega) z)
  · simp only [eJ5_append_3fe6f_0, eJ5_append_3fe6f_0N, eJ5_append_3fe6f_1, eJ5_append_3fe6f_1N, eJ5_append_3fe6f_2, eJ5_append_3fe6f_5, eJ5_append_3fe6f_6, eJ5_append_3fe6f_7, ite_le, n45, n54, true_or, or_true, false_or, or_false, false_and, and_false, kx_l, kx_r, go_s, gl_s, gi_s, gb_s2, gb_s3, gq_s, wt_nil, wt_int, wt_long, wt_ref, wt_null, nl_int, nl_long, nl_ref, nl_null, nl_none, rf_n, rf_s, rf_st, tl_s, tl_n, g0, gS, ex1, nb_b, nb_0, nb_1, nf_i, nf_l, nf_ra, nf_ro, nf_na, nf_no, nf_b0, nf_z0, t45_4, t45_5, true_and, and_true, List.set_cons_zero, List.set_cons_succ, List.length_cons, List.length_nil, rd_s, upw_s, ne_eq, not_false_eq_true, Nat.zero_add, Nat.add_zero, if_true, if_false, eq_self]
    exact lJ5_append_3fe6f_10 hS hT' (by omega) hch (by omega) (by omega) (by omega) (fun w' z => hQ2 d' N' w' (by omega) (by omega) z)
set_option maxHeartbeats 4000000 in
theorem lJ5_append_c97b9_17 {mc ms k n : Nat} {b d N : Nat} {c i : Int32} (hS : SG g) (hT : TS g w0 b d N c w) (hD : DG g w) (hN : N ≤ 1000) (hi0 : ¬ i < 0) (hi1 : i < 10) (hlt : c.toInt + 1 ≤ (N : Int)) (hk : k ≤ mc) (hn : n ≤ ms) (hQ : ∀ w', TS g w0 b d N (c + 1) w' → Q (.inl (some (.ref b))) w') : WP (MJ5_append_c97b9 g mc ms) Q (17, [some (.ref b), some (.int i), some (.int c), some (.int (c + 1))], [], w, k, n) := by
  obtain ⟨ml, f, hb, hd, hf, hc0, hc1, rb, rdd, n1, n2⟩ := hT.opn g
  have e1 := i32_p1 hc0 (by omega)
  simp only [eJ5_append_c97b9_17, eJ5_append_c97b9_17N, eJ5_append_c97b9_18, eJ5_append_c97b9_21, eJ5_append_c97b9_24, eJ5_append_c97b9_25, eJ5_append_c97b9_26, eJ5_append_c97b9_26N, eJ5_append_c97b9_27, eJ5_append_c97b9_30R, eJ5_append_c97b9_30N, eJ5_isLatin1_aae02_0, eJ5_isLatin1_aae02_3, eJ5_isLatin1_aae02_6, eJ5_isLatin1_aae02_6N, eJ5_isLatin1_aae02_7, eJ5_isLatin1_aae02_10, eJ5_isLatin1_aae02_13, eJ5_isLatin1_aae02_14, eJ5_isLatin1_aae02_17, eJ5_isLatin1_aae02_18, ite_le, n45, n54, true_or, or_true, false_or, or_false, false_and, and_false, kx_l, kx_r, go_s, gl_s, gi_s, gb_s2, gb_s3, gq_s, wt_nil, wt_int, wt_long, wt_ref, wt_null, nl_int, nl_long, nl_ref, nl_null, nl_none, rf_n, rf_s, rf_st, tl_s, tl_n, g0, gS, ex1, nb_b, nb_0, nb_1, nf_i, nf_l, nf_ra, nf_ro, nf_na, nf_no, nf_b0, nf_z0, t45_4, t45_5, true_and, and_true, List.set_cons_zero, List.set_cons_succ, List.length_cons, List.length_nil, rd_s, upw_s, ne_eq, not_false_eq_true, Nat.zero_add, Nat.add_zero, if_true, if_false, eq_self, hS.1, zz1, rb, hb, rdd, hd, n1, n2, exal, al26]
  repeat' first | with_reducible refine And.intro ?_ ?_ | omega
  refine sJ6_getChars_ba4f3 hd hf hD hi0 hi1 (by omega) (by omega) (fun f' v hf' => ?_)
  simp only [eJ5_append_c97b9_33, eJ5_append_c97b9_33R, eJ5_append_c97b9_33N, eJ5_append_c97b9_34, eJ5_append_c97b9_37, eJ5_append_c97b9_38, eJ5_append_c97b9_39, eJ5_append_c97b9_40, eJ5_append_c97b9_40N, eJ5_append_c97b9_41, eJ5_append_c97b9_47, eJ5_append_c97b9_47R, eJ5_append_c97b9_47N, eJ5_append_c97b9_48, eJ5_append_c97b9_48N, eJ5_append_c97b9_49, eJ5_append_c97b9_50, eJ5_append_c97b9_53, eJ5_append_c97b9_53N, eJ5_append_c97b9_54, eJ5_append_c97b9_54N, ite_le, n45, n54, true_or, or_true, false_or, or_false, false_and, and_false, kx_l, kx_r, go_s, gl_s, gi_s, gb_s2, gb_s3, gq_s, wt_nil, wt_int, wt_long, wt_ref, wt_null, nl_int, nl_long, nl_ref, nl_null, nl_none, rf_n, rf_s, rf_st, tl_s, tl_n, g0, gS, ex1, nb_b, nb_0, nb_1, nf_i, nf_l, nf_ra, nf_ro, nf_na, nf_no, nf_b0, nf_z0, t45_4, t45_5, true_and, and_true, List.set_cons_zero, List.set_cons_succ, List.length_cons, List.length_nil, rd_s, upw_s, ne_eq, not_false_eq_true, Nat.zero_add, Nat.add_zero, if_true, if_false, eq_self, hb, n1, n2, upw_n]
  repeat' first | with_reducible refine And.intro ?_ ?_ | omega
  exact hQ _ (hT.fin hf' (by omega) (by omega))
set_option maxHeartbeats 4000000 in
theorem sJ5_append_c97b9 {mc ms : Nat} {b d N : Nat} {c i : Int32} (hS : SG g) (hT : TS g w0 b d N c w) (hD : DG g w0) (hN : N ≤ 400) (hi0 : ¬ i < 0) (hi1 : i < 10) (hmc : (N : Int) < c.toInt + 1 → 1 ≤ mc ∧ max (c.toInt + 1) (2 * (N : Int) + 2) ≤ (ms : Int)) (hQ1 : ∀ w', c.toInt + 1 ≤ (N : Int) → TS g w0 b d N (c + 1) w' → Q (.inl (some (.ref b))) w') (hQ2 : ∀ (d' N' : Nat) (w' : Hw), (N : Int) < c.toInt + 1 → (N' : Int) = max (c.toInt + 1) (2 * (N : Int) + 2) → TS g w0 b d' N' (c + 1) w' → Q (.inl (some (.ref b))) w') : WP (MJ5_append_c97b9 g mc ms) Q (0, [some (.ref b), some (.int i), none, none], [], w, 0, 0) := by
  obtain ⟨ml, f, hb, hd, hf, hc0, hc1, rb, rdd, n1, n2⟩ := hT.opn g
  have e1 := i32_p1 hc0 (by omega)
  obtain ⟨eK, eS⟩ := kE (m := c + 1) hb hd (by omega)
  have hk : kfE [.ref b, .int (c + 1)] w ≤ mc := by
    rw [eK]
    split
    · exact (hmc (by omega)).1
    · exact Nat.zero_le _
  have hs : sfE [.ref b, .int (c + 1)] w ≤ ms := by
    split at eS
    · have := (hmc (by omega)).2
      omega
    · omega
  simp only [eJ5_append_c97b9_0, eJ5_append_c97b9_0N, eJ5_append_c97b9_1, eJ5_append_c97b9_4, eJ5_append_c97b9_5, eJ5_append_c97b9_6, eJ5_append_c97b9_7, ite_le, n45, n54, true_or, or_true, false_or, or_false, false_and, and_false, kx_l, kx_r, go_s, gl_s, gi_s, gb_s2, gb_s3, gq_s, wt_nil, wt_int, wt_long, wt_ref, wt_null, nl_int, nl_long, nl_ref, nl_null, nl_none, rf_n, rf_s, rf_st, tl_s, tl_n, g0, gS, ex1, nb_b, nb_0, nb_1, nf_i, nf_l, nf_ra, nf_ro, nf_na, nf_no, nf_b0, nf_z0, t45_4, t45_5, true_and, and_true, List.set_cons_zero, List.set_cons_succ, List.length_cons, List.length_nil, rd_s, upw_s, ne_eq, not_false_eq_true, Nat.zero_add, Nat.add_zero, if_true, if_false, eq_self, rb, hb]
  repeat' first | with_reducible refine And.intro ?_ ?_ | omega
  refine sJ6_stringSize_0f7a4 hi0 hi1 ?_
  simp only [eJ5_append_c97b9_10, eJ5_append_c97b9_11, eJ5_append_c97b9_12, eJ5_append_c97b9_12N, eJ5_append_c97b9_13, eJ5_append_c97b9_14, ite_le, n45, n54, true_or, or_true, false_or, or_false, false_and, and_false, kx_l, kx_r, go_s, gl_s, gi_s, gb_s2, gb_s3, gq_s, wt_nil, wt_int, wt_long, wt_ref, wt_null, nl_int, nl_long, nl_ref, nl_null, nl_none, rf_n, rf_s, rf_st, tl_s, tl_n, g0, gS, ex1, nb_b, nb_0, nb_1, nf_i, nf_l, nf_ra, nf_ro, nf_na, nf_no, nf_b0, nf_z0, t45_4, t45_5, true_and, and_true, List.set_cons_zero, List.set_cons_succ, List.length_cons, List.length_nil, rd_s, upw_s, ne_eq, not_false_eq_true, Nat.zero_add, Nat.add_zero, if_true, if_false, eq_self, rb, hb, hk, hs]
  repeat' first | with_reducible refine And.intro ?_ ?_ | omega
  refine sJ5_ensureCapacityInternal_d00df hS hT (by omega) (by omega) (by omega) (fun h => ⟨by rw [eK, if_pos h]; exact Nat.le_refl _, by rw [eS, if_pos h]; exact Int.le_refl _⟩) (fun h => ?_) (fun d' N' w' h1 h2 hT' => ?_)
  · simp only [eJ5_append_c97b9_10, eJ5_append_c97b9_11, eJ5_append_c97b9_12, eJ5_append_c97b9_12N, eJ5_append_c97b9_13, eJ5_append_c97b9_14, ite_le, n45, n54, true_or, or_true, false_or, or_false, false_and, and_false, kx_l, kx_r, go_s, gl_s, gi_s, gb_s2, gb_s3, gq_s, wt_nil, wt_int, wt_long, wt_ref, wt_null, nl_int, nl_long, nl_ref, nl_null, nl_none, rf_n, rf_s, rf_st, tl_s, tl_n, g0, gS, ex1, nb_b, nb_0, nb_1, nf_i, nf_l, nf_ra, nf_ro, nf_na, nf_no, nf_b0, nf_z0, t45_4, t45_5, true_and, and_true, List.set_cons_zero, List.set_cons_succ, List.length_cons, List.length_nil, rd_s, upw_s, ne_eq, not_false_eq_true, Nat.zero_add, Nat.add_zero, if_true, if_false, eq_self]
    exact lJ5_append_c97b9_17 hS hT (hD.ext hT.1) (by omega) hi0 hi1 (by omega) (by omega) (by omega) (fun w' z => hQ1 w' (by omega) z)
  · simp only [eJ5_append_c97b9_10, eJ5_append_c97b9_11, eJ5_append_c97b9_12, eJ5_append_c97b9_12N, eJ5_append_c97b9_13, eJ5_append_c97b9_14, ite_le, n45, n54, true_or, or_true, false_or, or_false, false_and, and_false, kx_l, kx_r, go_s, gl_s, gi_s, gb_s2, gb_s3, gq_s, wt_nil, wt_int, wt_long, wt_ref, wt_null, nl_int, nl_long, nl_ref, nl_null, nl_none, rf_n, rf_s, rf_st, tl_s, tl_n, g0, gS, ex1, nb_b, nb_0, nb_1, nf_i, nf_l, nf_ra, nf_ro, nf_na, nf_no, nf_b0, nf_z0, t45_4, t45_5, true_and, and_true, List.set_cons_zero, List.set_cons_succ, List.length_cons, List.length_nil, rd_s, upw_s, ne_eq, not_false_eq_true, Nat.zero_add, Nat.add_zero, if_true, if_false, eq_self]
    exact lJ5_append_c97b9_17 hS hT' (hD.ext hT'.1) (by omega) hi0 hi1 (by omega) (by omega) (by omega) (fun w' z => hQ2 d' N' w' (by omega) (by omega) z)
set_option maxHeartbeats 4000000 in
theorem sJ4_append_cf468 {mc ms : Nat} {b d N : Nat} {c i : Int32} (hS : SG g) (hT : TS g w0 b d N c w) (hN : N ≤ 400) (hch : (255 < i) = False) (hmc : (N : Int) < c.toInt + 1 → 1 ≤ mc ∧ max (c.toInt + 1) (2 * (N : Int) + 2) ≤ (ms : Int)) (hQ1 : ∀ w', c.toInt + 1 ≤ (N : Int) → TS g w0 b d N (c + 1) w' → Q (.inl (some (.ref b))) w') (hQ2 : ∀ (d' N' : Nat) (w' : Hw), (N : Int) < c.toInt + 1 → (N' : Int) = max (c.toInt + 1) (2 * (N : Int) + 2) → TS g w0 b d' N' (c + 1) w' → Q (.inl (some (.ref b))) w') : WP (MJ4_append_cf468 g mc ms) Q (0, [some (.ref b), some (.int i)], [], w, 0, 0) := by
  obtain ⟨ml, f, hb, hd, hf, hc0, hc1, rb, rdd, n1, n2⟩ := hT.opn g
  have e1 := i32_p1 hc0 (by omega)
  obtain ⟨eK, eS⟩ := kE (m := c + 1) hb hd (by omega)
  rw [← sbCnt_v hb, ← kfI_v (m := i)] at eK
  rw [← sbCnt_v hb, ← sfI_v (m := i)] at eS
  rw [sbCnt_v hb] at eK eS
  have hk : kfI [.ref b, .int i] w ≤ mc := by
    rw [eK]
    split
    · exact (hmc (by omega)).1
    · exact Nat.zero_le _
  have hs : sfI [.ref b, .int i] w ≤ ms := by
    split at eS
    · have := (hmc (by omega)).2
      omega
    · omega
  simp only [eJ4_append_cf468_0, eJ4_append_cf468_0N, eJ4_append_cf468_1, eJ4_append_cf468_2, ite_le, n45, n54, true_or, or_true, false_or, or_false, false_and, and_false, kx_l, kx_r, go_s, gl_s, gi_s, gb_s2, gb_s3, gq_s, wt_nil, wt_int, wt_long, wt_ref, wt_null, nl_int, nl_long, nl_ref, nl_null, nl_none, rf_n, rf_s, rf_st, tl_s, tl_n, g0, gS, ex1, nb_b, nb_0, nb_1, nf_i, nf_l, nf_ra, nf_ro, nf_na, nf_no, nf_b0, nf_z0, t45_4, t45_5, true_and, and_true, List.set_cons_zero, List.set_cons_succ, List.length_cons, List.length_nil, rd_s, upw_s, ne_eq, not_false_eq_true, Nat.zero_add, Nat.add_zero, if_true, if_false, eq_self, rb, hb, hk, hs]
  repeat' first | with_reducible refine And.intro ?_ ?_ | omega
  refine sJ5_append_3fe6f hS hT  (by omega) hch (fun h => ⟨by rw [eK, if_pos (by omega)]; exact Nat.le_refl _, by rw [eS, if_pos (by omega), e1]; exact Int.le_refl _⟩) (fun w' h z => ?_) (fun d' N' w' h h2 z => ?_)
  · simp only [eJ4_append_cf468_0, eJ4_append_cf468_0N, eJ4_append_cf468_1, eJ4_append_cf468_2, eJ4_append_cf468_5, eJ4_append_cf468_5R, eJ4_append_cf468_5N, eJ4_append_cf468_6, eJ4_append_cf468_6N, eJ4_append_cf468_7, eJ4_append_cf468_7N, ite_le, n45, n54, true_or, or_true, false_or, or_false, false_and, and_false, kx_l, kx_r, go_s, gl_s, gi_s, gb_s2, gb_s3, gq_s, wt_nil, wt_int, wt_long, wt_ref, wt_null, nl_int, nl_long, nl_ref, nl_null, nl_none, rf_n, rf_s, rf_st, tl_s, tl_n, g0, gS, ex1, nb_b, nb_0, nb_1, nf_i, nf_l, nf_ra, nf_ro, nf_na, nf_no, nf_b0, nf_z0, t45_4, t45_5, true_and, and_true, List.set_cons_zero, List.set_cons_succ, List.length_cons, List.length_nil, rd_s, upw_s, ne_eq, not_false_eq_true, Nat.zero_add, Nat.add_zero, if_true, if_false, eq_self]
    exact ⟨by omega, by omega, hQ1 w' h z⟩
  · simp only [eJ4_append_cf468_0, eJ4_append_cf468_0N, eJ4_append_cf468_1, eJ4_append_cf468_2, eJ4_append_cf468_5, eJ4_append_cf468_5R, eJ4_append_cf468_5N, eJ4_append_cf468_6, eJ4_append_cf468_6N, eJ4_append_cf468_7, eJ4_append_cf468_7N, ite_le, n45, n54, true_or, or_true, false_or, or_false, false_and, and_false, kx_l, kx_r, go_s, gl_s, gi_s, gb_s2, gb_s3, gq_s, wt_nil, wt_int, wt_long, wt_ref, wt_null, nl_int, nl_long, nl_ref, nl_null, nl_none, rf_n, rf_s, rf_st, tl_s, tl_n, g0, gS, ex1, nb_b, nb_0, nb_1, nf_i, nf_l, nf_ra, nf_ro, nf_na, nf_no, nf_b0, nf_z0, t45_4, t45_5, true_and, and_true, List.set_cons_zero, List.set_cons_succ, List.length_cons, List.length_nil, rd_s, upw_s, ne_eq, not_false_eq_true, Nat.zero_add, Nat.add_zero, if_true, if_false, eq_self]
    exact ⟨by omega, by omega, hQ2 d' N' w' h h2 z⟩
set_option maxHeartbeats 4000000 in
theorem sJ4_append_bf812 {mc ms : Nat} {b d N : Nat} {c i : Int32} (hS : SG g) (hT : TS g w0 b d N c w) (hD : DG g w0) (hN : N ≤ 400) (hi0 : ¬ i < 0) (hi1 : i < 10) (hmc : (N : Int) < c.toInt + 1 → 1 ≤ mc ∧ max (c.toInt + 1) (2 * (N : Int) + 2) ≤ (ms : Int)) (hQ1 : ∀ w', c.toInt + 1 ≤ (N : Int) → TS g w0 b d N (c + 1) w' → Q (.inl (some (.ref b))) w') (hQ2 : ∀ (d' N' : Nat) (w' : Hw), (N : Int) < c.toInt + 1 → (N' : Int) = max (c.toInt + 1) (2 * (N : Int) + 2) → TS g w0 b d' N' (c + 1) w' → Q (.inl (some (.ref b))) w') : WP (MJ4_append_bf812 g mc ms) Q (0, [some (.ref b), some (.int i)], [], w, 0, 0) := by
  obtain ⟨ml, f, hb, hd, hf, hc0, hc1, rb, rdd, n1, n2⟩ := hT.opn g
  have e1 := i32_p1 hc0 (by omega)
  obtain ⟨eK, eS⟩ := kE (m := c + 1) hb hd (by omega)
  rw [← sbCnt_v hb, ← kfI_v (m := i)] at eK
  rw [← sbCnt_v hb, ← sfI_v (m := i)] at eS
  rw [sbCnt_v hb] at eK eS
  have hk : kfI [.ref b, .int i] w ≤ mc := by
    rw [eK]
    split
    · exact (hmc (by omega)).1
    · exact Nat.zero_le _
  have hs : sfI [.ref b, .int i] w ≤ ms := by
    split at eS
    · have := (hmc (by omega)).2
      omega
    · omega
  simp only [eJ4_append_bf812_0, eJ4_append_bf812_0N, eJ4_append_bf812_1, eJ4_append_bf812_2, ite_le, n45, n54, true_or, or_true, false_or, or_false, false_and, and_false, kx_l, kx_r, go_s, gl_s, gi_s, gb_s2, gb_s3, gq_s, wt_nil, wt_int, wt_long, wt_ref, wt_null, nl_int, nl_long, nl_ref, nl_null, nl_none, rf_n, rf_s, rf_st, tl_s, tl_n, g0, gS, ex1, nb_b, nb_0, nb_1, nf_i, nf_l, nf_ra, nf_ro, nf_na, nf_no, nf_b0, nf_z0, t45_4, t45_5, true_and, and_true, List.set_cons_zero, List.set_cons_succ, List.length_cons, List.length_nil, rd_s, upw_s, ne_eq, not_false_eq_true, Nat.zero_add, Nat.add_zero, if_true, if_false, eq_self, rb, hb, hk, hs]
  repeat' first | with_reducible refine And.intro ?_ ?_ | omega
  refine sJ5_append_c97b9 hS hT hD (by omega) hi0 hi1 (fun h => ⟨by rw [eK, if_pos (by omega)]; exact Nat.le_refl _, by rw [eS, if_pos (by omega), e1]; exact Int.le_refl _⟩) (fun w' h z => ?_) (fun d' N' w' h h2 z => ?_)
  · simp only [eJ4_append_bf812_0, eJ4_append_bf812_0N, eJ4_append_bf812_1, eJ4_append_bf812_2, eJ4_append_bf812_5, eJ4_append_bf812_5R, eJ4_append_bf812_5N, eJ4_append_bf812_6, eJ4_append_bf812_6N, eJ4_append_bf812_7, eJ4_append_bf812_7N, ite_le, n45, n54, true_or, or_true, false_or, or_false, false_and, and_false, kx_l, kx_r, go_s, gl_s, gi_s, gb_s2, gb_s3, gq_s, wt_nil, wt_int, wt_long, wt_ref, wt_null, nl_int, nl_long, nl_ref, nl_null, nl_none, rf_n, rf_s, rf_st, tl_s, tl_n, g0, gS, ex1, nb_b, nb_0, nb_1, nf_i, nf_l, nf_ra, nf_ro, nf_na, nf_no, nf_b0, nf_z0, t45_4, t45_5, true_and, and_true, List.set_cons_zero, List.set_cons_succ, List.length_cons, List.length_nil, rd_s, upw_s, ne_eq, not_false_eq_true, Nat.zero_add, Nat.add_zero, if_true, if_false, eq_self]
    exact ⟨by omega, by omega, hQ1 w' h z⟩
  · simp only [eJ4_append_bf812_0, eJ4_append_bf812_0N, eJ4_append_bf812_1, eJ4_append_bf812_2, eJ4_append_bf812_5, eJ4_append_bf812_5R, eJ4_append_bf812_5N, eJ4_append_bf812_6, eJ4_append_bf812_6N, eJ4_append_bf812_7, eJ4_append_bf812_7N, ite_le, n45, n54, true_or, or_true, false_or, or_false, false_and, and_false, kx_l, kx_r, go_s, gl_s, gi_s, gb_s2, gb_s3, gq_s, wt_nil, wt_int, wt_long, wt_ref, wt_null, nl_int, nl_long, nl_ref, nl_null, nl_none, rf_n, rf_s, rf_st, tl_s, tl_n, g0, gS, ex1, nb_b, nb_0, nb_1, nf_i, nf_l, nf_ra, nf_ro, nf_na, nf_no, nf_b0, nf_z0, t45_4, t45_5, true_and, and_true, List.set_cons_zero, List.set_cons_succ, List.length_cons, List.length_nil, rd_s, upw_s, ne_eq, not_false_eq_true, Nat.zero_add, Nat.add_zero, if_true, if_false, eq_self]
    exact ⟨by omega, by omega, hQ2 d' N' w' h h2 z⟩
end
end
/-! 60.text6.lean.txt -/
section
section
variable {g : RO} {Q : Ot → Hw → Prop} {w0 w : Hw}
theorem i32_sr1 {a : Int32} : (a >>> ((1 : Int32) &&& 31)).toInt = a.toInt / 2 := by
  have e : ((1 : Int32) &&& 31) = 1 := rfl
  rw [e]
  have h : (a >>> (1 : Int32)).toBitVec = a.toBitVec.sshiftRight 1 := by
    rw [Int32.toBitVec_shiftRight]
    rfl
  show (a >>> (1 : Int32)).toBitVec.toInt = a.toBitVec.toInt / 2
  rw [h, BitVec.toInt_sshiftRight, Int.shiftRight_eq_div_pow]
  rfl
theorem td10 (y : Int) : -10 < y - y.tdiv 10 * 10 ∧ y - y.tdiv 10 * 10 < 10 ∧ (0 ≤ y → 0 ≤ y.tdiv 10 ∧ y.tdiv 10 * 10 ≤ y) ∧ (y ≤ 0 → y.tdiv 10 ≤ 0 ∧ y ≤ y.tdiv 10 * 10) := by
  rcases Int.le_total 0 y with h | h
  · rw [Int.tdiv_eq_ediv_of_nonneg h]
    omega
  · obtain ⟨n, rfl⟩ : ∃ n : Int, y = -n := ⟨-y, by omega⟩
    rw [Int.neg_tdiv, Int.tdiv_eq_ediv_of_nonneg (by omega)]
    omega
theorem dig10 {x : Int64} {a : Int32} (h : (x - x / 10 * 10).toInt32 = a) : ¬ (if 0 ≤ a then a else 0 - a) < 0 ∧ (if 0 ≤ a then a else 0 - a) < 10 := by
  obtain ⟨h1, h2, h3, h4⟩ := td10 x.toInt
  have e : (10 : Int64).toInt = 10 := rfl
  have b := i64_bd x
  have d : (x / 10).toInt = x.toInt.tdiv 10 := by
    rw [Int64.toInt_div, e]
    exact Int.bmod_eq_of_le (by omega) (by omega)
  have m : (x / 10 * 10).toInt = x.toInt.tdiv 10 * 10 := by
    rw [Int64.toInt_mul, e, d]
    exact Int.bmod_eq_of_le (by omega) (by omega)
  have s : (x - x / 10 * 10).toInt = x.toInt - x.toInt.tdiv 10 * 10 := by
    rw [Int64.toInt_sub, m]
    exact Int.bmod_eq_of_le (by omega) (by omega)
  have ha : a.toInt = x.toInt - x.toInt.tdiv 10 * 10 := by
    rw [← h, Int64.toInt_toInt32, s]
    exact Int.bmod_eq_of_le (by omega) (by omega)
  have z0 : (0 : Int32).toInt = 0 := rfl
  have z10 : (10 : Int32).toInt = 10 := rfl
  generalize x.toInt.tdiv 10 = t at *
  clear d m s h
  split
  · next hp =>
    have hp := Int32.le_iff_toInt_le.mp hp
    exact ⟨i32_of_nlt (by omega), i32_of_lt (by omega)⟩
  · next hp =>
    have hp : a.toInt < 0 := by
      have := mt Int32.le_iff_toInt_le.mpr hp
      omega
    have hn : (0 - a).toInt = -a.toInt := by
      rw [i32_sub (by rw [z0]; omega) (by rw [z0]; omega), z0]
      omega
    exact ⟨i32_of_nlt (by rw [hn, z0]; omega), i32_of_lt (by rw [hn, z10]; omega)⟩
/-- the places that a builder has, what it may still ask for -/
def CP (N : Nat) : Prop := N = 16 ∨ N = 34 ∨ N = 70 ∨ N = 142
def pC (N : Nat) : Nat := if N = 16 then 3 else if N = 34 then 2 else if N = 70 then 1 else 0
def pS (N : Nat) : Nat := if N = 16 then 246 else if N = 34 then 212 else if N = 70 then 142 else 0
theorem CP.le {N : Nat} (h : CP N) : N ≤ 400 := by rcases h with rfl | rfl | rfl | rfl <;> decide
theorem CP.nx {N N' : Nat} {c : Int} (h : CP N) (hc : c ≤ (N : Int)) (hc2 : c < 142) (h1 : (N : Int) < c + 1) (h2 : (N' : Int) = max (c + 1) (2 * (N : Int) + 2)) : CP N' ∧ 1 + pC N' ≤ pC N ∧ 2 * N + 2 + pS N' ≤ pS N ∧ max (c + 1) (2 * (N : Int) + 2) = 2 * (N : Int) + 2 := by
  rcases h with rfl | rfl | rfl | rfl
  · obtain rfl : N' = 34 := by omega
    exact ⟨Or.inr (Or.inl rfl), by decide, by decide, by omega⟩
  · obtain rfl : N' = 70 := by omega
    exact ⟨Or.inr (Or.inr (Or.inl rfl)), by decide, by decide, by omega⟩
  · obtain rfl : N' = 142 := by omega
    exact ⟨Or.inr (Or.inr (Or.inr rfl)), by decide, by decide, by omega⟩
  · omega
theorem kI {w : Hw} {b d N : Nat} {c i ml : Int32} {f : Nat → Int32} (hN : CP N) (h1 : w b = some (.inr (1, [.ref d, .int 0, .int ml, .int c]))) (h2 : w d = some (.inl (2, N, .inl f))) (h0 : 0 ≤ c.toInt) (hc : c.toInt ≤ (N : Int)) (hc2 : c.toInt < 142) : kfI [.ref b, .int i] w ≤ pC N ∧ sfI [.ref b, .int i] w ≤ pS N ∧ (kfI [.ref b, .int i] w = if (N : Int) < c.toInt + 1 then 1 else 0) ∧ (sfI [.ref b, .int i] w = if (N : Int) < c.toInt + 1 then 2 * N + 2 else 0) := by
  have e1 := i32_p1 h0 (by omega)
  obtain ⟨eK, eS⟩ := kE (m := c + 1) h1 h2 (by omega)
  rw [kfI_v, sfI_v, sbCnt_v h1, eK]
  rw [e1] at eS ⊢
  by_cases h : (N : Int) < c.toInt + 1
  · obtain ⟨N', hN'⟩ : ∃ N' : Nat, (N' : Int) = max (c.toInt + 1) (2 * (N : Int) + 2) := ⟨(max (c.toInt + 1) (2 * (N : Int) + 2)).toNat, by omega⟩
    obtain ⟨-, q1, q2, q3⟩ := hN.nx hc hc2 h hN'
    rw [if_pos h] at eS ⊢
    rw [if_pos h]
    exact ⟨by omega, by omega, rfl, by omega⟩
  · rw [if_neg h] at eS ⊢
    rw [if_neg h]
    exact ⟨Nat.zero_le _, by omega, rfl, by omega⟩
theorem sapC {b d N : Nat} {c i : Int32} (hS : SG g) (hT : TS g w0 b d N c w) (hN : CP N) (hc : c.toInt < 142) (hch : (255 < i) = False) (hQ : ∀ (d' N' : Nat) (w' : Hw), CP N' → kfI [.ref b, .int i] w + pC N' ≤ pC N → sfI [.ref b, .int i] w + pS N' ≤ pS N → TS g w0 b d' N' (c + 1) w' → Q (.inl (some (.ref b))) w') : WP (MJ4_append_cf468 g (kfI [.ref b, .int i] w) (sfI [.ref b, .int i] w)) Q (0, [some (.ref b), some (.int i)], [], w, 0, 0) := by
  obtain ⟨ml, f, hb, hd, hf, hc0, hc1, rb, rdd, n1, n2⟩ := hT.opn g
  obtain ⟨k1, k2, k3, k4⟩ := kI (i := i) hN hb hd hc0 hc1 hc
  refine sJ4_append_cf468 hS hT  hN.le hch (fun h => ?_) (fun w' h z => ?_) (fun d' N' w' h h2 z => ?_)
  · obtain ⟨N', hN'⟩ : ∃ N' : Nat, (N' : Int) = max (c.toInt + 1) (2 * (N : Int) + 2) := ⟨(max (c.toInt + 1) (2 * (N : Int) + 2)).toNat, by omega⟩
    obtain ⟨-, q1, q2, q3⟩ := hN.nx hc1 hc h hN'
    rw [if_pos h] at k3 k4
    exact ⟨by omega, by omega⟩
  · rw [if_neg (by omega)] at k3 k4
    exact hQ _ _ _ hN (by omega) (by omega) z
  · obtain ⟨q0, q1, q2, q3⟩ := hN.nx hc1 hc h h2
    rw [if_pos h] at k3 k4
    exact hQ _ _ _ q0 (by omega) (by omega) z
theorem sapI {b d N : Nat} {c i : Int32} (hS : SG g) (hT : TS g w0 b d N c w) (hN : CP N) (hc : c.toInt < 142) (hD : DG g w0) (hi0 : ¬ i < 0) (hi1 : i < 10) (hQ : ∀ (d' N' : Nat) (w' : Hw), CP N' → kfI [.ref b, .int i] w + pC N' ≤ pC N → sfI [.ref b, .int i] w + pS N' ≤ pS N → TS g w0 b d' N' (c + 1) w' → Q (.inl (some (.ref b))) w') : WP (MJ4_append_bf812 g (kfI [.ref b, .int i] w) (sfI [.ref b, .int i] w)) Q (0, [some (.ref b), some (.int i)], [], w, 0, 0) := by
  obtain ⟨ml, f, hb, hd, hf, hc0, hc1, rb, rdd, n1, n2⟩ := hT.opn g
  obtain ⟨k1, k2, k3, k4⟩ := kI (i := i) hN hb hd hc0 hc1 hc
  refine sJ4_append_bf812 hS hT hD hN.le hi0 hi1 (fun h => ?_) (fun w' h z => ?_) (fun d' N' w' h h2 z => ?_)
  · obtain ⟨N', hN'⟩ : ∃ N' : Nat, (N' : Int) = max (c.toInt + 1) (2 * (N : Int) + 2) := ⟨(max (c.toInt + 1) (2 * (N : Int) + 2)).toNat, by omega⟩
    obtain ⟨-, q1, q2, q3⟩ := hN.nx hc1 hc h hN'
    rw [if_pos h] at k3 k4
    exact ⟨by omega, by omega⟩
  · rw [if_neg (by omega)] at k3 k4
    exact hQ _ _ _ hN (by omega) (by omega) z
  · obtain ⟨q0, q1, q2, q3⟩ := hN.nx hc1 hc h h2
    rw [if_pos h] at k3 k4
    exact hQ _ _ _ q0 (by omega) (by omega) z
theorem zr0 : ((0 : Int32) = 0) = True := eq_true rfl
end
end
/-! 60.text7.lean.txt -/
section
section
variable {g : RO} {Q : Ot → Hw → Prop} {w0 w : Hw}
theorem TS.byt {w0 w : Hw} {b d N : Nat} {c : Int32} {f' : Nat → Int32} (h : TS g w0 b d N c w) (hf : bOK N f') : TS g w0 b d N c (upw w d (.inl (2, N, .inl f'))) := by
  obtain ⟨ml, f, hb, hd, -, h0, h1, -, -, n1, n2⟩ := h.opn g
  exact ⟨h.1.own h.2.1.2.1 h.2.1.2.2.2, h.2.1, ml, f', by rw [upw_n n1]; exact hb, upw_s _ _ _, hf, h0, h1⟩
theorem sub0 (a : Int32) : a - 0 = a := by simp
theorem i32_t0 {a : Int32} (h : a.toInt < 0) : (a < 0) = True := eq_true (i32_of_lt (by have e : (0 : Int32).toInt = 0 := rfl; omega))
set_option maxHeartbeats 4000000 in
theorem lJ5_reverse_278bc_28 {b d N : Nat} {c n : Int32} (hN : N ≤ 1000) (hn : n.toInt < (N : Int)) (hn1 : -1 ≤ n.toInt) (hQ : ∀ w', TS g w0 b d N c w' → Q (.inl (some (.ref b))) w') : ∀ (e : Nat) (j : Int32) (l5 l6 : Option Value) (w : Hw), j.toInt + 1 ≤ e → -1 ≤ j.toInt → j.toInt ≤ n.toInt → TS g w0 b d N c w →
    WP (MJ5_reverse_278bc g) Q (28, [some (.ref b), some (.ref d), some (.int c), some (.int n), some (.int j), l5, l6], [], w, 0, 0) := by
  intro e
  induction e with
  | zero =>
    intro j l5 l6 w h1 h2 h3 hT
    have t : (j < 0) = True := i32_t0 (by omega)
    rw [eJ5_reverse_278bc_28]
    simp only [eJ5_reverse_278bc_30, eJ5_reverse_278bc_33, eJ5_reverse_278bc_34, eJ5_reverse_278bc_36, eJ5_reverse_278bc_37, eJ5_reverse_278bc_39, eJ5_reverse_278bc_39N, eJ5_reverse_278bc_40, eJ5_reverse_278bc_42, eJ5_reverse_278bc_43, eJ5_reverse_278bc_45, eJ5_reverse_278bc_45N, eJ5_reverse_278bc_46, eJ5_reverse_278bc_48, eJ5_reverse_278bc_48N, eJ5_reverse_278bc_49, eJ5_reverse_278bc_51, eJ5_reverse_278bc_52, eJ5_reverse_278bc_53, eJ5_reverse_278bc_53N, eJ5_reverse_278bc_54, eJ5_reverse_278bc_56, eJ5_reverse_278bc_58, eJ5_reverse_278bc_59, eJ5_reverse_278bc_62, eJ5_reverse_278bc_65, eJ5_reverse_278bc_68, eJ5_reverse_278bc_68N, eJ5_reverse_278bc_69, eJ5_reverse_278bc_73, eJ5_reverse_278bc_73N, eJ5_reverse_278bc_74, eJ5_reverse_278bc_74N, ite_le, n45, n54, true_or, or_true, false_or, or_false, false_and, and_false, kx_l, kx_r, go_s, gl_s, gi_s, gb_s2, gb_s3, gq_s, wt_nil, wt_int, wt_long, wt_ref, wt_null, nl_int, nl_long, nl_ref, nl_null, nl_none, rf_n, rf_s, rf_st, tl_s, tl_n, g0, gS, ex1, nb_b, nb_0, nb_1, nf_i, nf_l, nf_ra, nf_ro, nf_na, nf_no, nf_b0, nf_z0, t45_4, t45_5, true_and, and_true, List.set_cons_zero, List.set_cons_succ, List.length_cons, List.length_nil, rd_s, upw_s, ne_eq, not_false_eq_true, Nat.zero_add, Nat.add_zero, if_true, if_false, eq_self, t]
    repeat' first | with_reducible refine And.intro ?_ ?_ | omega
    exact hQ _ hT
  | succ e ih =>
    intro j l5 l6 w h1 h2 h3 hT
    obtain ⟨ml, f, hb, hd, hf, hc0, hc1, rb, rdd, n1, n2⟩ := hT.opn g
    rw [eJ5_reverse_278bc_28]
    simp only [eJ5_reverse_278bc_30, ite_le, n45, n54, true_or, or_true, false_or, or_false, false_and, and_false, kx_l, kx_r, go_s, gl_s, gi_s, gb_s2, gb_s3, gq_s, wt_nil, wt_int, wt_long, wt_ref, wt_null, nl_int, nl_long, nl_ref, nl_null, nl_none, rf_n, rf_s, rf_st, tl_s, tl_n, g0, gS, ex1, nb_b, nb_0, nb_1, nf_i, nf_l, nf_ra, nf_ro, nf_na, nf_no, nf_b0, nf_z0, t45_4, t45_5, true_and, and_true, List.set_cons_zero, List.set_cons_succ, List.length_cons, List.length_nil, rd_s, upw_s, ne_eq, not_false_eq_true, Nat.zero_add, Nat.add_zero, if_true, if_false, eq_self]
    split
    · simp only [eJ5_reverse_278bc_65, eJ5_reverse_278bc_68, eJ5_reverse_278bc_68N, eJ5_reverse_278bc_69, eJ5_reverse_278bc_73, eJ5_reverse_278bc_73N, eJ5_reverse_278bc_74, eJ5_reverse_278bc_74N, ite_le, n45, n54, true_or, or_true, false_or, or_false, false_and, and_false, kx_l, kx_r, go_s, gl_s, gi_s, gb_s2, gb_s3, gq_s, wt_nil, wt_int, wt_long, wt_ref, wt_null, nl_int, nl_long, nl_ref, nl_null, nl_none, rf_n, rf_s, rf_st, tl_s, tl_n, g0, gS, ex1, nb_b, nb_0, nb_1, nf_i, nf_l, nf_ra, nf_ro, nf_na, nf_no, nf_b0, nf_z0, t45_4, t45_5, true_and, and_true, List.set_cons_zero, List.set_cons_succ, List.length_cons, List.length_nil, rd_s, upw_s, ne_eq, not_false_eq_true, Nat.zero_add, Nat.add_zero, if_true, if_false, eq_self]
      repeat' first | with_reducible refine And.intro ?_ ?_ | omega
      exact hQ _ hT
    · next hj =>
      have hj := i32_0 hj
      obtain ⟨q, hq⟩ : ∃ q, n - j = q := ⟨_, rfl⟩
      have eq : q.toInt = n.toInt - j.toInt := by
        rw [← hq]
        exact i32_sub (by omega) (by omega)
      have jv : vp_in j N := vpiN (by omega) (by omega)
      have qv : vp_in q N := vpiN (by omega) (by omega)
      have ej : (j + -1).toInt = j.toInt - 1 := i32_m1 (by omega)
      simp only [eJ5_reverse_278bc_33, eJ5_reverse_278bc_34, eJ5_reverse_278bc_36, eJ5_reverse_278bc_37, eJ5_reverse_278bc_39, eJ5_reverse_278bc_39N, eJ5_reverse_278bc_40, eJ5_reverse_278bc_42, eJ5_reverse_278bc_43, eJ5_reverse_278bc_45, eJ5_reverse_278bc_45N, eJ5_reverse_278bc_46, eJ5_reverse_278bc_48, eJ5_reverse_278bc_48N, eJ5_reverse_278bc_49, eJ5_reverse_278bc_51, eJ5_reverse_278bc_52, eJ5_reverse_278bc_53, eJ5_reverse_278bc_53N, eJ5_reverse_278bc_54, eJ5_reverse_278bc_56, eJ5_reverse_278bc_58, eJ5_reverse_278bc_59, eJ5_reverse_278bc_62, ite_le, n45, n54, true_or, or_true, false_or, or_false, false_and, and_false, kx_l, kx_r, go_s, gl_s, gi_s, gb_s2, gb_s3, gq_s, wt_nil, wt_int, wt_long, wt_ref, wt_null, nl_int, nl_long, nl_ref, nl_null, nl_none, rf_n, rf_s, rf_st, tl_s, tl_n, g0, gS, ex1, nb_b, nb_0, nb_1, nf_i, nf_l, nf_ra, nf_ro, nf_na, nf_no, nf_b0, nf_z0, t45_4, t45_5, true_and, and_true, List.set_cons_zero, List.set_cons_succ, List.length_cons, List.length_nil, rd_s, upw_s, ne_eq, not_false_eq_true, Nat.zero_add, Nat.add_zero, if_true, if_false, eq_self, hq, rb, hb, rdd, hd, n1, n2, bty_2, upw2, jv, qv]
      repeat' first | with_reducible refine And.intro ?_ ?_ | omega
      exact ih _ _ _ _ (by omega) (by omega) (by omega) (hT.byt (bOK_up (bOK_up hf _ _) _ _))
set_option maxHeartbeats 4000000 in
theorem sJ5_reverse_278bc {b d N : Nat} {c : Int32} (hS : SG g) (hT : TS g w0 b d N c w) (hN : N ≤ 1000) (hQ : ∀ w', TS g w0 b d N c w' → Q (.inl (some (.ref b))) w') : WP (MJ5_reverse_278bc g) Q (0, [some (.ref b), none, none, none, none, none, none], [], w, 0, 0) := by
  obtain ⟨ml, f, hb, hd, hf, hc0, hc1, rb, rdd, n1, n2⟩ := hT.opn g
  have z1 : (1 : Int32).toInt = 1 := rfl
  obtain ⟨m, hm⟩ : ∃ m, c - 1 = m := ⟨_, rfl⟩
  obtain ⟨m2, hm2⟩ : ∃ m2, m - 1 = m2 := ⟨_, rfl⟩
  obtain ⟨j, hj⟩ : ∃ j, m2 >>> ((1 : Int32) &&& 31) = j := ⟨_, rfl⟩
  have e1 : m.toInt = c.toInt - 1 := by
    rw [← hm, i32_sub (by omega) (by omega), z1]
  have e2 : m2.toInt = m.toInt - 1 := by
    rw [← hm2, i32_sub (by omega) (by omega), z1]
  have e3 : j.toInt = m2.toInt / 2 := by rw [← hj, i32_sr1]
  simp only [eJ5_reverse_278bc_0, eJ5_reverse_278bc_0N, eJ5_reverse_278bc_1, eJ5_reverse_278bc_4, eJ5_reverse_278bc_4N, eJ5_reverse_278bc_5, eJ5_reverse_278bc_5N, eJ5_reverse_278bc_6, eJ5_reverse_278bc_9, eJ5_reverse_278bc_10, eJ5_reverse_278bc_11, eJ5_reverse_278bc_12, eJ5_reverse_278bc_13, eJ5_reverse_278bc_14, eJ5_reverse_278bc_14N, eJ5_reverse_278bc_15, eJ5_reverse_278bc_18, eJ5_reverse_278bc_21, eJ5_reverse_278bc_22, eJ5_reverse_278bc_23, eJ5_reverse_278bc_24, eJ5_reverse_278bc_25, eJ5_reverse_278bc_26, eJ5_isLatin1_aae02_0, eJ5_isLatin1_aae02_3, eJ5_isLatin1_aae02_6, eJ5_isLatin1_aae02_6N, eJ5_isLatin1_aae02_7, eJ5_isLatin1_aae02_10, eJ5_isLatin1_aae02_13, eJ5_isLatin1_aae02_14, eJ5_isLatin1_aae02_17, eJ5_isLatin1_aae02_18, ite_le, n45, n54, true_or, or_true, false_or, or_false, false_and, and_false, kx_l, kx_r, go_s, gl_s, gi_s, gb_s2, gb_s3, gq_s, wt_nil, wt_int, wt_long, wt_ref, wt_null, nl_int, nl_long, nl_ref, nl_null, nl_none, rf_n, rf_s, rf_st, tl_s, tl_n, g0, gS, ex1, nb_b, nb_0, nb_1, nf_i, nf_l, nf_ra, nf_ro, nf_na, nf_no, nf_b0, nf_z0, t45_4, t45_5, true_and, and_true, List.set_cons_zero, List.set_cons_succ, List.length_cons, List.length_nil, rd_s, upw_s, ne_eq, not_false_eq_true, Nat.zero_add, Nat.add_zero, if_true, if_false, eq_self, hS.1, zz1, hm, hm2, hj, rb]
  repeat' first | with_reducible refine And.intro ?_ ?_ | omega
  exact lJ5_reverse_278bc_28 hN (by omega) (by omega) hQ 2000 _ _ _ _ (by omega) (by omega) (by omega) hT
theorem i16n : (16 : Int32).toNatClampNeg = 16 := rfl
theorem n160 : ((16 : Int32) < 0) = False := eq_false (by decide)
set_option maxHeartbeats 4000000 in
theorem sJ4_init_da8c8 {b : Nat} (hS : SG g) (hX : ext g w0 w) (hb : w b = some (.inr (1, [.null, .int 0, .int 0, .int 0]))) (hb0 : w0 b = none) (hg : g.2 b = none) (hQ : ∀ q w', TS g w0 b q 16 0 w' → Q (.inl none) w') : WP (MJ4_init_da8c8 g) Q (0, [some (.ref b)], [], w, 0, 0) := by
  simp only [eJ4_init_da8c8_0, eJ4_init_da8c8_0N, eJ4_init_da8c8_1, eJ4_init_da8c8_3, eJ5_init_d00df_0, eJ5_init_d00df_0N, eJ5_init_d00df_1, eJ5_init_d00df_4, eJ5_init_d00df_7, eJ5_init_d00df_10, eJ5_init_d00df_10N, eJ5_init_d00df_11, eJ5_init_d00df_12, eJ5_init_d00df_14, eJ5_init_d00df_17, eJ5_init_d00df_17N, eJ5_init_d00df_18, eJ5_init_d00df_19, eJ5_init_d00df_22, eJ5_init_d00df_25, eJ5_init_d00df_25N, eJ5_init_d00df_26, eJ5_init_d00df_30, eJ5_init_d00df_33, eJ5_init_d00df_33N, eJ5_init_d00df_34, eJ5_init_d00df_35, eJ5_init_d00df_38, ite_le, n45, n54, true_or, or_true, false_or, or_false, false_and, and_false, kx_l, kx_r, go_s, gl_s, gi_s, gb_s2, gb_s3, gq_s, wt_nil, wt_int, wt_long, wt_ref, wt_null, nl_int, nl_long, nl_ref, nl_null, nl_none, rf_n, rf_s, rf_st, tl_s, tl_n, g0, gS, ex1, nb_b, nb_0, nb_1, nf_i, nf_l, nf_ra, nf_ro, nf_na, nf_no, nf_b0, nf_z0, t45_4, t45_5, true_and, and_true, List.set_cons_zero, List.set_cons_succ, List.length_cons, List.length_nil, rd_s, upw_s, ne_eq, not_false_eq_true, Nat.zero_add, Nat.add_zero, if_true, if_false, eq_self, hS.1, zz1, i16n, n160]
  repeat' first | with_reducible refine And.intro ?_ ?_ | omega
  intro q hq
  have hqn := rd_none hq
  have hqb : b ≠ q := fun e => by
    rw [← e, hb] at hqn
    cases hqn
  have hw0 : w0 q = none := by
    cases hz : w0 q with
    | none => rfl
    | some o =>
      have := hX.1 q o hz
      rw [hqn] at this
      cases this
  simp only [eJ5_init_d00df_0, eJ5_init_d00df_0N, eJ5_init_d00df_1, eJ5_init_d00df_4, eJ5_init_d00df_7, eJ5_init_d00df_10, eJ5_init_d00df_10N, eJ5_init_d00df_11, eJ5_init_d00df_12, eJ5_init_d00df_14, eJ5_init_d00df_17, eJ5_init_d00df_17N, eJ5_init_d00df_18, eJ5_init_d00df_19, eJ5_init_d00df_22, eJ5_init_d00df_25, eJ5_init_d00df_25N, eJ5_init_d00df_26, eJ5_init_d00df_30, eJ5_init_d00df_33, eJ5_init_d00df_33N, eJ5_init_d00df_34, eJ5_init_d00df_35, eJ5_init_d00df_38, eJ4_init_da8c8_0, eJ4_init_da8c8_0N, eJ4_init_da8c8_1, eJ4_init_da8c8_3, eJ4_init_da8c8_6, ite_le, n45, n54, true_or, or_true, false_or, or_false, false_and, and_false, kx_l, kx_r, go_s, gl_s, gi_s, gb_s2, gb_s3, gq_s, wt_nil, wt_int, wt_long, wt_ref, wt_null, nl_int, nl_long, nl_ref, nl_null, nl_none, rf_n, rf_s, rf_st, tl_s, tl_n, g0, gS, ex1, nb_b, nb_0, nb_1, nf_i, nf_l, nf_ra, nf_ro, nf_na, nf_no, nf_b0, nf_z0, t45_4, t45_5, true_and, and_true, List.set_cons_zero, List.set_cons_succ, List.length_cons, List.length_nil, rd_s, upw_s, ne_eq, not_false_eq_true, Nat.zero_add, Nat.add_zero, if_true, if_false, eq_self, hb, hqb, upw_n, upw2, tyJ4, i16n]
  repeat' first | with_reducible refine And.intro ?_ ?_ | omega
  all_goals first | exact trivial | exact hQ q _ ⟨(hX.own hw0 (rd_ro hq)).own hb0 hg, ⟨hb0, hw0, hg, rd_ro hq⟩, 0, fun _ => 0, upw_s _ _ _, by rw [upw_n hqb.symm]; exact upw_s _ _ _, bOK_0 _, by decide, by decide⟩
set_option maxHeartbeats 4000000 in
theorem sJ4_reverse_43fcb {b d N : Nat} {c : Int32} (hS : SG g) (hT : TS g w0 b d N c w) (hN : N ≤ 1000) (hQ : ∀ w', TS g w0 b d N c w' → Q (.inl (some (.ref b))) w') : WP (MJ4_reverse_43fcb g) Q (0, [some (.ref b)], [], w, 0, 0) := by
  obtain ⟨ml, f, hb, hd, hf, hc0, hc1, rb, rdd, n1, n2⟩ := hT.opn g
  simp only [eJ4_reverse_43fcb_0, eJ4_reverse_43fcb_0N, eJ4_reverse_43fcb_1, ite_le, n45, n54, true_or, or_true, false_or, or_false, false_and, and_false, kx_l, kx_r, go_s, gl_s, gi_s, gb_s2, gb_s3, gq_s, wt_nil, wt_int, wt_long, wt_ref, wt_null, nl_int, nl_long, nl_ref, nl_null, nl_none, rf_n, rf_s, rf_st, tl_s, tl_n, g0, gS, ex1, nb_b, nb_0, nb_1, nf_i, nf_l, nf_ra, nf_ro, nf_na, nf_no, nf_b0, nf_z0, t45_4, t45_5, true_and, and_true, List.set_cons_zero, List.set_cons_succ, List.length_cons, List.length_nil, rd_s, upw_s, ne_eq, not_false_eq_true, Nat.zero_add, Nat.add_zero, if_true, if_false, eq_self, rb]
  repeat' first | with_reducible refine And.intro ?_ ?_ | omega
  refine sJ5_reverse_278bc hS hT hN (fun w' z => ?_)
  simp only [eJ4_reverse_43fcb_4, eJ4_reverse_43fcb_4R, eJ4_reverse_43fcb_4N, eJ4_reverse_43fcb_5, eJ4_reverse_43fcb_5N, eJ4_reverse_43fcb_6, eJ4_reverse_43fcb_6N, ite_le, n45, n54, true_or, or_true, false_or, or_false, false_and, and_false, kx_l, kx_r, go_s, gl_s, gi_s, gb_s2, gb_s3, gq_s, wt_nil, wt_int, wt_long, wt_ref, wt_null, nl_int, nl_long, nl_ref, nl_null, nl_none, rf_n, rf_s, rf_st, tl_s, tl_n, g0, gS, ex1, nb_b, nb_0, nb_1, nf_i, nf_l, nf_ra, nf_ro, nf_na, nf_no, nf_b0, nf_z0, t45_4, t45_5, true_and, and_true, List.set_cons_zero, List.set_cons_succ, List.length_cons, List.length_nil, rd_s, upw_s, ne_eq, not_false_eq_true, Nat.zero_add, Nat.add_zero, if_true, if_false, eq_self]
  repeat' first | with_reducible refine And.intro ?_ ?_ | omega
  exact hQ _ z
end
end
/-! 60.text8.lean.txt -/
section
section
variable {g : RO} {Q : Ot → Hw → Prop} {w0 w : Hw}
theorem mn {c : Int32} {N : Nat} (hN : N ≤ 1000) (h0 : 0 ≤ c.toInt) (h1 : c.toInt ≤ (N : Int)) : (if c < Int32.ofNat N then c else Int32.ofNat N) = c := by
  split
  · rfl
  · next h =>
    have h := i32_nlt h
    have e := ofN (N := N) (by omega)
    exact Int32.toInt_inj.mp (by omega)
set_option maxHeartbeats 4000000 in
theorem sJ7_copyOfRange_39247 {a N : Nat} {c : Int32} {f : Nat → Int32} (hd : w a = some (.inl (2, N, .inl f))) (hf : bOK N f) (hN : N ≤ 1000) (h0 : 0 ≤ c.toInt) (h1 : c.toInt ≤ (N : Int)) (h2 : c.toInt ≤ 90) (hQ : ∀ (q M : Nat) (f' : Nat → Int32), rd g w q = none → Q (.inl (some (.ref q))) (upw w q (.inl (2, M, .inl f')))) : WP (MJ7_copyOfRange_39247 g) Q (0, [some (.ref a), some (.int 0), some (.int c)], [], w, 0, 0) := by
  have rdd := rd_e (g := g) hd
  have e := ofN (N := N) (by omega)
  have z0 : (0 : Int32).toInt = 0 := rfl
  have c0 : (c < 0) = False := eq_false (i32_of_nlt (by omega))
  have cc : ((0 : Int32) ≤ c) = True := eq_true (Int32.le_iff_toInt_le.mpr (by omega))
  have ev : c.toNatClampNeg = c.toInt.toNat := rfl
  have c4 : c.toNatClampNeg ≤ 40000 := by omega
  have c9 : c.toNatClampNeg ≤ 90 := by omega
  have zn : (0 : Int32).toNatClampNeg = 0 := rfl
  have z00 : ((0 : Int32) < 0) = False := eq_false (by decide)
  have m := mn hN h0 h1
  simp only [eJ7_copyOfRange_39247_0, eJ7_copyOfRange_39247_1, eJ7_copyOfRange_39247_4, eJ7_copyOfRange_39247_5, eJ7_copyOfRange_39247_5N, eJ7_copyOfRange_39247_6, eJ7_copyOfRange_39247_7, ite_le, n45, n54, true_or, or_true, false_or, or_false, false_and, and_false, kx_l, kx_r, go_s, gl_s, gi_s, gb_s2, gb_s3, gq_s, wt_nil, wt_int, wt_long, wt_ref, wt_null, nl_int, nl_long, nl_ref, nl_null, nl_none, rf_n, rf_s, rf_st, tl_s, tl_n, g0, gS, ex1, nb_b, nb_0, nb_1, nf_i, nf_l, nf_ra, nf_ro, nf_na, nf_no, nf_b0, nf_z0, t45_4, t45_5, true_and, and_true, List.set_cons_zero, List.set_cons_succ, List.length_cons, List.length_nil, rd_s, upw_s, ne_eq, not_false_eq_true, Nat.zero_add, Nat.add_zero, if_true, if_false, eq_self, rdd, exal, al26, zr0]
  split
  · next h =>
    have hNN : N ≤ 90 := by
      rw [h, e] at h2
      omega
    simp only [eJ7_copyOfRange_39247_17, eJ7_copyOfRange_39247_17N, eJ7_copyOfRange_39247_18, ite_le, n45, n54, true_or, or_true, false_or, or_false, false_and, and_false, kx_l, kx_r, go_s, gl_s, gi_s, gb_s2, gb_s3, gq_s, wt_nil, wt_int, wt_long, wt_ref, wt_null, nl_int, nl_long, nl_ref, nl_null, nl_none, rf_n, rf_s, rf_st, tl_s, tl_n, g0, gS, ex1, nb_b, nb_0, nb_1, nf_i, nf_l, nf_ra, nf_ro, nf_na, nf_no, nf_b0, nf_z0, t45_4, t45_5, true_and, and_true, List.set_cons_zero, List.set_cons_succ, List.length_cons, List.length_nil, rd_s, upw_s, ne_eq, not_false_eq_true, Nat.zero_add, Nat.add_zero, if_true, if_false, eq_self, eJ7_copyOfRange_39247_18 hd]
    repeat' first | with_reducible refine And.intro ?_ ?_ | omega
    · exact hf
    · intro q hq
      simp only [eJ7_copyOfRange_39247_21N, eJ7_copyOfRange_39247_21R, eJ7_copyOfRange_39247_24, ite_le, n45, n54, true_or, or_true, false_or, or_false, false_and, and_false, kx_l, kx_r, go_s, gl_s, gi_s, gb_s2, gb_s3, gq_s, wt_nil, wt_int, wt_long, wt_ref, wt_null, nl_int, nl_long, nl_ref, nl_null, nl_none, rf_n, rf_s, rf_st, tl_s, tl_n, g0, gS, ex1, nb_b, nb_0, nb_1, nf_i, nf_l, nf_ra, nf_ro, nf_na, nf_no, nf_b0, nf_z0, t45_4, t45_5, true_and, and_true, List.set_cons_zero, List.set_cons_succ, List.length_cons, List.length_nil, rd_s, upw_s, ne_eq, not_false_eq_true, Nat.zero_add, Nat.add_zero, if_true, if_false, eq_self]
      repeat' first | with_reducible refine And.intro ?_ ?_ | omega
      all_goals first | exact ⟨_, rfl⟩ | exact hQ _ _ _ hq
  · simp only [eJ7_copyOfRange_39247_5N, eJ7_copyOfRange_39247_10, eJ7_copyOfRange_39247_10N, eJ7_copyOfRange_39247_11, eJ7_copyOfRange_39247_12, eJ7_copyOfRange_39247_13R, eJ7_copyOfRange_39247_13N, eJ7_copyOfRange_39247_16, eJ7_copyOfRange_39247_17N, eJ7_copyOfRange_39247_21N, eJ7_copyOfRange_39247_21R, eJ7_copyOfRangeByte_39247_0, eJ7_copyOfRangeByte_39247_1, eJ7_copyOfRangeByte_39247_2, eJ7_copyOfRangeByte_39247_5, eJ7_copyOfRangeByte_39247_6, eJ7_copyOfRangeByte_39247_7, eJ7_copyOfRangeByte_39247_8, eJ7_copyOfRangeByte_39247_9, eJ7_copyOfRangeByte_39247_10, eJ7_copyOfRangeByte_39247_12, eJ7_copyOfRangeByte_39247_12N, eJ7_copyOfRangeByte_39247_14, eJ7_copyOfRangeByte_39247_14N, eJ7_copyOfRangeByte_39247_15, eJ7_copyOfRangeByte_39247_16, eJ7_copyOfRangeByte_39247_16N, eJ7_copyOfRangeByte_39247_18, eJ7_copyOfRangeByte_39247_19, eJ7_copyOfRangeByte_39247_19N, eJ7_copyOfRangeByte_39247_20, eJ7_copyOfRangeByte_39247_21, eJ7_copyOfRangeByte_39247_22, eJ7_copyOfRangeByte_39247_23, eJ7_copyOfRangeByte_39247_24, eJ7_copyOfRangeByte_39247_27O, eJ7_copyOfRangeByte_39247_27B, eJ7_copyOfRangeByte_39247_30, eJ7_copyOfRangeByte_39247_30N, eJ7_copyOfRangeByte_39247_32, eJ7_checkLength_df160_0, eJ7_checkLength_df160_1, eJ7_checkLength_df160_2, eJ7_checkLength_df160_8, eJ7_checkLength_df160_8R, eJ7_checkLength_df160_9, eJ7_checkLength_df160_12, eJ7_checkLength_df160_12R, eJ7_checkLength_df160_16, eJ7_checkLength_df160_26, eJ7_checkLength_df160_37, ite_le, n45, n54, true_or, or_true, false_or, or_false, false_and, and_false, kx_l, kx_r, go_s, gl_s, gi_s, gb_s2, gb_s3, gq_s, wt_nil, wt_int, wt_long, wt_ref, wt_null, nl_int, nl_long, nl_ref, nl_null, nl_none, rf_n, rf_s, rf_st, tl_s, tl_n, g0, gS, ex1, nb_b, nb_0, nb_1, nf_i, nf_l, nf_ra, nf_ro, nf_na, nf_no, nf_b0, nf_z0, t45_4, t45_5, true_and, and_true, List.set_cons_zero, List.set_cons_succ, List.length_cons, List.length_nil, rd_s, upw_s, ne_eq, not_false_eq_true, Nat.zero_add, Nat.add_zero, if_true, if_false, eq_self, sub0, cc, c0, c4, c9]
    repeat' first | with_reducible refine And.intro ?_ ?_ | omega
    intro q hq
    have hne : a ≠ q := fun h => by
      subst h
      rw [rdd] at hq
      cases hq
    have ra : rd g (upw w q (.inl (2, c.toNatClampNeg, .inl fun _ => 0))) a = some (.inl (2, N, .inl f)) := by rw [rd_n hne]; exact rdd
    simp only [eJ7_copyOfRange_39247_5N, eJ7_copyOfRange_39247_10, eJ7_copyOfRange_39247_10N, eJ7_copyOfRange_39247_11, eJ7_copyOfRange_39247_12, eJ7_copyOfRange_39247_13R, eJ7_copyOfRange_39247_13N, eJ7_copyOfRange_39247_16, eJ7_copyOfRange_39247_17N, eJ7_copyOfRange_39247_21N, eJ7_copyOfRange_39247_21R, eJ7_copyOfRangeByte_39247_0, eJ7_copyOfRangeByte_39247_1, eJ7_copyOfRangeByte_39247_2, eJ7_copyOfRangeByte_39247_5, eJ7_copyOfRangeByte_39247_6, eJ7_copyOfRangeByte_39247_7, eJ7_copyOfRangeByte_39247_8, eJ7_copyOfRangeByte_39247_9, eJ7_copyOfRangeByte_39247_10, eJ7_copyOfRangeByte_39247_12, eJ7_copyOfRangeByte_39247_12N, eJ7_copyOfRangeByte_39247_14, eJ7_copyOfRangeByte_39247_14N, eJ7_copyOfRangeByte_39247_15, eJ7_copyOfRangeByte_39247_16, eJ7_copyOfRangeByte_39247_16N, eJ7_copyOfRangeByte_39247_18, eJ7_copyOfRangeByte_39247_19, eJ7_copyOfRangeByte_39247_19N, eJ7_copyOfRangeByte_39247_20, eJ7_copyOfRangeByte_39247_21, eJ7_copyOfRangeByte_39247_22, eJ7_copyOfRangeByte_39247_23, eJ7_copyOfRangeByte_39247_24, eJ7_copyOfRangeByte_39247_27O, eJ7_copyOfRangeByte_39247_27B, eJ7_copyOfRangeByte_39247_30, eJ7_copyOfRangeByte_39247_30N, eJ7_copyOfRangeByte_39247_32, ite_le, n45, n54, true_or, or_true, false_or, or_false, false_and, and_false, kx_l, kx_r, go_s, gl_s, gi_s, gb_s2, gb_s3, gq_s, wt_nil, wt_int, wt_long, wt_ref, wt_null, nl_int, nl_long, nl_ref, nl_null, nl_none, rf_n, rf_s, rf_st, tl_s, tl_n, g0, gS, ex1, nb_b, nb_0, nb_1, nf_i, nf_l, nf_ra, nf_ro, nf_na, nf_no, nf_b0, nf_z0, t45_4, t45_5, true_and, and_true, List.set_cons_zero, List.set_cons_succ, List.length_cons, List.length_nil, rd_s, upw_s, ne_eq, not_false_eq_true, Nat.zero_add, Nat.add_zero, if_true, if_false, eq_self, sub0, exal, al26, ra, m, c0, z00, zn, upw2, eJ7_copyOfRangeByte_39247_27B ra (upw_s _ _ _)]
    repeat' first | with_reducible refine And.intro ?_ ?_ | omega
    · intro j hj
      exact hf j (by omega)
    · exact hQ _ _ _ hq
set_option maxHeartbeats 4000000 in
theorem sJ4_toString_0e30d {b d N : Nat} {c : Int32} (hS : SG g) (hT : TS g w0 b d N c w) (hN : N ≤ 1000) (hc : c.toInt ≤ 90) (hQ : ∀ q w', ext g w0 w' → Q (.inl (some (.ref q))) w') : WP (MJ4_toString_0e30d g) Q (0, [some (.ref b)], [], w, 0, 0) := by
  obtain ⟨ml, f, hb, hd, hf, hc0, hc1, rb, rdd, n1, n2⟩ := hT.opn g
  simp only [eJ4_toString_0e30d_0, ite_le, n45, n54, true_or, or_true, false_or, or_false, false_and, and_false, kx_l, kx_r, go_s, gl_s, gi_s, gb_s2, gb_s3, gq_s, wt_nil, wt_int, wt_long, wt_ref, wt_null, nl_int, nl_long, nl_ref, nl_null, nl_none, rf_n, rf_s, rf_st, tl_s, tl_n, g0, gS, ex1, nb_b, nb_0, nb_1, nf_i, nf_l, nf_ra, nf_ro, nf_na, nf_no, nf_b0, nf_z0, t45_4, t45_5, true_and, and_true, List.set_cons_zero, List.set_cons_succ, List.length_cons, List.length_nil, rd_s, upw_s, ne_eq, not_false_eq_true, Nat.zero_add, Nat.add_zero, if_true, if_false, eq_self]
  repeat' first | with_reducible refine And.intro ?_ ?_ | omega
  intro q hq
  have hqn := rd_none hq
  have hqb : b ≠ q := fun e => by
    rw [← e, hb] at hqn
    cases hqn
  have hqd : d ≠ q := fun e => by
    rw [← e, hd] at hqn
    cases hqn
  have hw0 : w0 q = none := by
    cases hz : w0 q with
    | none => rfl
    | some o =>
      have := hT.1.1 q o hz
      rw [hqn] at this
      cases this
  simp only [eJ4_toString_0e30d_0, eJ4_toString_0e30d_3, eJ4_toString_0e30d_3R, eJ4_toString_0e30d_4, eJ4_toString_0e30d_4N, eJ4_toString_0e30d_5R, eJ4_toString_0e30d_5N, eJ4_toString_0e30d_8, eJ4_toString_0e30d_8N, eJ0_init_81219_0, eJ0_init_81219_0N, eJ0_init_81219_1, eJ0_init_81219_1N, eJ0_init_81219_2, eJ0_init_81219_3RR, eJ0_init_81219_3NR, eJ0_init_81219_3RN, eJ0_init_81219_3NN, eJ0_init_81219_6, eJ0_init_db425_0, eJ0_init_db425_0N, eJ0_init_db425_1, eJ0_init_db425_4, eJ0_init_db425_4N, eJ0_init_db425_5, eJ0_init_db425_8, eJ0_init_db425_8N, eJ0_init_db425_9, eJ0_init_db425_9N, eJ0_init_db425_10, eJ0_init_db425_13, eJ0_init_db425_15, eJ0_init_db425_15N, eJ0_init_db425_16, eJ0_init_db425_19, eJ0_init_db425_22, eJ0_init_db425_22N, eJ0_init_db425_23, eJ0_init_db425_24, eJ0_init_db425_27, eJ0_init_db425_27N, eJ0_init_db425_28, eJ0_init_db425_28N, eJ0_init_db425_29, eJ0_init_db425_30, eJ0_init_db425_32R, eJ0_init_db425_32N, eJ0_init_db425_35, eJ0_init_db425_38, eJ0_init_db425_41, eJ0_init_db425_44, eJ0_init_db425_47, eJ0_init_db425_47N, eJ0_init_db425_48, eJ0_init_db425_51, eJ0_init_db425_54, eJ0_init_db425_54N, eJ0_init_db425_55, eJ0_init_db425_55N, eJ0_init_db425_56, eJ0_init_db425_57, eJ0_init_db425_62, eJ0_init_db425_65, eJ0_init_db425_65N, eJ0_init_db425_66, eJ0_init_db425_66N, eJ0_init_db425_67, eJ0_init_db425_70, eJ0_init_db425_75, eJ0_init_db425_78, eJ0_init_db425_79, eJ0_init_db425_79N, eJ0_init_db425_80, eJ0_init_db425_81, eJ0_init_db425_84, eJ0_init_db425_84N, eJ0_init_db425_85, eJ0_init_db425_85N, eJ0_init_db425_86, eJ0_init_db425_87, eJ0_init_db425_89, eJ0_init_db425_90, eJ0_init_db425_91R, eJ0_init_db425_91N, eJ0_init_db425_94, eJ0_init_db425_97, eJ5_getValue_6d5f1_0, eJ5_getValue_6d5f1_0N, eJ5_getValue_6d5f1_1, eJ5_getValue_6d5f1_4, eJ5_length_8abf5_0, eJ5_length_8abf5_0N, eJ5_length_8abf5_1, eJ5_length_8abf5_4, eJ4_length_8abf5_0, eJ4_length_8abf5_0N, eJ4_length_8abf5_1, eJ4_length_8abf5_4, eJ5_isLatin1_aae02_0, eJ5_isLatin1_aae02_3, eJ5_isLatin1_aae02_6, eJ5_isLatin1_aae02_6N, eJ5_isLatin1_aae02_7, eJ5_isLatin1_aae02_10, eJ5_isLatin1_aae02_13, eJ5_isLatin1_aae02_14, eJ5_isLatin1_aae02_17, eJ5_isLatin1_aae02_18, ite_le, n45, n54, true_or, or_true, false_or, or_false, false_and, and_false, kx_l, kx_r, go_s, gl_s, gi_s, gb_s2, gb_s3, gq_s, wt_nil, wt_int, wt_long, wt_ref, wt_null, nl_int, nl_long, nl_ref, nl_null, nl_none, rf_n, rf_s, rf_st, tl_s, tl_n, g0, gS, ex1, nb_b, nb_0, nb_1, nf_i, nf_l, nf_ra, nf_ro, nf_na, nf_no, nf_b0, nf_z0, t45_4, t45_5, true_and, and_true, List.set_cons_zero, List.set_cons_succ, List.length_cons, List.length_nil, rd_s, upw_s, ne_eq, not_false_eq_true, Nat.zero_add, Nat.add_zero, if_true, if_false, eq_self, hS.1, zz1, rb, hb, hqb, upw_n, rd_n, upw2, rdd]
  repeat' first | with_reducible refine And.intro ?_ ?_ | omega
  refine sJ7_copyOfRange_39247 (a := d) (N := N) (f := f) (by rw [upw_n hqd]; exact hd) hf hN hc0 hc1 hc (fun q2 M f' hq2 => ?_)
  have hq2n := rd_none hq2
  have hqq : q ≠ q2 := fun e => by
    rw [← e, upw_s] at hq2n
    cases hq2n
  have hw2 : w0 q2 = none := by
    cases hz : w0 q2 with
    | none => rfl
    | some o =>
      have := hT.1.1 q2 o hz
      rw [upw_n hqq.symm, this] at hq2n
      cases hq2n
  simp only [eJ4_toString_0e30d_0, eJ4_toString_0e30d_3, eJ4_toString_0e30d_3R, eJ4_toString_0e30d_4, eJ4_toString_0e30d_4N, eJ4_toString_0e30d_5R, eJ4_toString_0e30d_5N, eJ4_toString_0e30d_8, eJ4_toString_0e30d_8N, eJ0_init_81219_0, eJ0_init_81219_0N, eJ0_init_81219_1, eJ0_init_81219_1N, eJ0_init_81219_2, eJ0_init_81219_3RR, eJ0_init_81219_3NR, eJ0_init_81219_3RN, eJ0_init_81219_3NN, eJ0_init_81219_6, eJ0_init_db425_0, eJ0_init_db425_0N, eJ0_init_db425_1, eJ0_init_db425_4, eJ0_init_db425_4N, eJ0_init_db425_5, eJ0_init_db425_8, eJ0_init_db425_8N, eJ0_init_db425_9, eJ0_init_db425_9N, eJ0_init_db425_10, eJ0_init_db425_13, eJ0_init_db425_15, eJ0_init_db425_15N, eJ0_init_db425_16, eJ0_init_db425_19, eJ0_init_db425_22, eJ0_init_db425_22N, eJ0_init_db425_23, eJ0_init_db425_24, eJ0_init_db425_27, eJ0_init_db425_27N, eJ0_init_db425_28, eJ0_init_db425_28N, eJ0_init_db425_29, eJ0_init_db425_30, eJ0_init_db425_32R, eJ0_init_db425_32N, eJ0_init_db425_35, eJ0_init_db425_38, eJ0_init_db425_41, eJ0_init_db425_44, eJ0_init_db425_47, eJ0_init_db425_47N, eJ0_init_db425_48, eJ0_init_db425_51, eJ0_init_db425_54, eJ0_init_db425_54N, eJ0_init_db425_55, eJ0_init_db425_55N, eJ0_init_db425_56, eJ0_init_db425_57, eJ0_init_db425_62, eJ0_init_db425_65, eJ0_init_db425_65N, eJ0_init_db425_66, eJ0_init_db425_66N, eJ0_init_db425_67, eJ0_init_db425_70, eJ0_init_db425_75, eJ0_init_db425_78, eJ0_init_db425_79, eJ0_init_db425_79N, eJ0_init_db425_80, eJ0_init_db425_81, eJ0_init_db425_84, eJ0_init_db425_84N, eJ0_init_db425_85, eJ0_init_db425_85N, eJ0_init_db425_86, eJ0_init_db425_87, eJ0_init_db425_89, eJ0_init_db425_90, eJ0_init_db425_91R, eJ0_init_db425_91N, eJ0_init_db425_94, eJ0_init_db425_97, ite_le, n45, n54, true_or, or_true, false_or, or_false, false_and, and_false, kx_l, kx_r, go_s, gl_s, gi_s, gb_s2, gb_s3, gq_s, wt_nil, wt_int, wt_long, wt_ref, wt_null, nl_int, nl_long, nl_ref, nl_null, nl_none, rf_n, rf_s, rf_st, tl_s, tl_n, g0, gS, ex1, nb_b, nb_0, nb_1, nf_i, nf_l, nf_ra, nf_ro, nf_na, nf_no, nf_b0, nf_z0, t45_4, t45_5, true_and, and_true, List.set_cons_zero, List.set_cons_succ, List.length_cons, List.length_nil, rd_s, upw_s, ne_eq, not_false_eq_true, Nat.zero_add, Nat.add_zero, if_true, if_false, eq_self, hqq, upw_n, upw2, tyJ0]
  repeat' first | with_reducible refine And.intro ?_ ?_ | omega
  all_goals first | exact trivial | exact hQ q _ (((hT.1.own hw0 (rd_ro hq)).own hw2 (rd_ro hq2)).own hw0 (rd_ro hq))
end
end
/-! 60.texu0.lean.txt -/
section
section
variable {g : RO} {Q : Ot → Hw → Prop} {w0 w : Hw}
set_option maxHeartbeats 4000000 in
theorem lJ5_append_66267_19 {k n : Nat} {b d N kk : Nat} {c s : Int32} {x : Int64} (hS : SG g) (hD : DG g w) (hT : TS g w0 b d N c w) (hN : N ≤ 1000) (k1 : 1 ≤ kk) (hs : s.toInt = c.toInt + (kk + (if x.toInt < 0 then 1 else 0))) (ha : -((10 : Int) ^ kk) < x.toInt) (hb' : x.toInt < (10 : Int) ^ kk) (hsN : s.toInt ≤ (N : Int)) (hk : k ≤ 1) (hn : n ≤ 170) (hQ : ∀ w', TS g w0 b d N s w' → Q (.inl (some (.ref b))) w') : WP (MJ5_append_66267 g) Q (19, [some (.ref b), some (.long x), none, some (.int c), some (.int s)], [], w, k, n) := by
  obtain ⟨ml, f, hb, hd, hf, hc0, hc1, rb, rdd, n1, n2⟩ := hT.opn g
  simp only [eJ5_append_66267_19, eJ5_append_66267_19N, eJ5_append_66267_20, eJ5_append_66267_23, eJ5_append_66267_26, eJ5_append_66267_27, eJ5_append_66267_29, eJ5_append_66267_29N, eJ5_append_66267_30, eJ5_append_66267_33R, eJ5_append_66267_33N, eJ5_isLatin1_aae02_0, eJ5_isLatin1_aae02_3, eJ5_isLatin1_aae02_6, eJ5_isLatin1_aae02_6N, eJ5_isLatin1_aae02_7, eJ5_isLatin1_aae02_10, eJ5_isLatin1_aae02_13, eJ5_isLatin1_aae02_14, eJ5_isLatin1_aae02_17, eJ5_isLatin1_aae02_18, ite_le, n45, n54, true_or, or_true, false_or, or_false, false_and, and_false, kx_l, kx_r, go_s, gl_s, gi_s, gb_s2, gb_s3, gq_s, wt_nil, wt_int, wt_long, wt_ref, wt_null, nl_int, nl_long, nl_ref, nl_null, nl_none, rf_n, rf_s, rf_st, tl_s, tl_n, g0, gS, ex1, nb_b, nb_0, nb_1, nf_i, nf_l, nf_ra, nf_ro, nf_na, nf_no, nf_b0, nf_z0, t45_4, t45_5, true_and, and_true, List.set_cons_zero, List.set_cons_succ, List.length_cons, List.length_nil, rd_s, upw_s, ne_eq, not_false_eq_true, Nat.zero_add, Nat.add_zero, if_true, if_false, eq_self, hS.1, zz1, rb, hb, rdd, hd, n1, n2, exal, al26]
  repeat' first | with_reducible refine And.intro ?_ ?_ | omega
  refine sJ13_getChars_11360 (kk := kk) (by omega) k1 ha hb' (by omega) hsN hd hf hD (fun f' v hf' => ?_)
  simp only [eJ5_append_66267_36, eJ5_append_66267_36R, eJ5_append_66267_36N, eJ5_append_66267_37, eJ5_append_66267_40, eJ5_append_66267_41, eJ5_append_66267_42, eJ5_append_66267_44, eJ5_append_66267_44N, eJ5_append_66267_45, eJ5_append_66267_51, eJ5_append_66267_51R, eJ5_append_66267_51N, eJ5_append_66267_52, eJ5_append_66267_52N, eJ5_append_66267_53, eJ5_append_66267_55, eJ5_append_66267_58, eJ5_append_66267_58N, eJ5_append_66267_59, eJ5_append_66267_59N, ite_le, n45, n54, true_or, or_true, false_or, or_false, false_and, and_false, kx_l, kx_r, go_s, gl_s, gi_s, gb_s2, gb_s3, gq_s, wt_nil, wt_int, wt_long, wt_ref, wt_null, nl_int, nl_long, nl_ref, nl_null, nl_none, rf_n, rf_s, rf_st, tl_s, tl_n, g0, gS, ex1, nb_b, nb_0, nb_1, nf_i, nf_l, nf_ra, nf_ro, nf_na, nf_no, nf_b0, nf_z0, t45_4, t45_5, true_and, and_true, List.set_cons_zero, List.set_cons_succ, List.length_cons, List.length_nil, rd_s, upw_s, ne_eq, not_false_eq_true, Nat.zero_add, Nat.add_zero, if_true, if_false, eq_self, hb, n1, n2, upw_n]
  repeat' first | with_reducible refine And.intro ?_ ?_ | omega
  exact hQ _ (hT.fin hf' (by split at hs <;> omega) hsN)
set_option maxHeartbeats 4000000 in
theorem sJ5_append_66267 {b d N : Nat} {c : Int32} {x : Int64} (hS : SG g) (hT : TS g w0 b d N c w) (hN : N ≤ 170) (hc : c.toInt ≤ 63) (hD : DG g w0) (hQ : ∀ (d' N' : Nat) (c' : Int32) (w' : Hw), N' ≤ 170 → c.toInt ≤ c'.toInt → c'.toInt ≤ c.toInt + 20 → TS g w0 b d' N' c' w' → Q (.inl (some (.ref b))) w') : WP (MJ5_append_66267 g) Q (0, [some (.ref b), some (.long x), none, none, none], [], w, 0, 0) := by
  obtain ⟨ml, f, hb, hd, hf, hc0, hc1, rb, rdd, n1, n2⟩ := hT.opn g
  simp only [eJ5_append_66267_0, eJ5_append_66267_0N, eJ5_append_66267_1, eJ5_append_66267_4, eJ5_append_66267_5, eJ5_append_66267_6, eJ5_append_66267_7, ite_le, n45, n54, true_or, or_true, false_or, or_false, false_and, and_false, kx_l, kx_r, go_s, gl_s, gi_s, gb_s2, gb_s3, gq_s, wt_nil, wt_int, wt_long, wt_ref, wt_null, nl_int, nl_long, nl_ref, nl_null, nl_none, rf_n, rf_s, rf_st, tl_s, tl_n, g0, gS, ex1, nb_b, nb_0, nb_1, nf_i, nf_l, nf_ra, nf_ro, nf_na, nf_no, nf_b0, nf_z0, t45_4, t45_5, true_and, and_true, List.set_cons_zero, List.set_cons_succ, List.length_cons, List.length_nil, rd_s, upw_s, ne_eq, not_false_eq_true, Nat.zero_add, Nat.add_zero, if_true, if_false, eq_self, rb, hb]
  repeat' first | with_reducible refine And.intro ?_ ?_ | omega
  refine sJ13_stringSize_95d88 (fun v kk k1 k2 k3 k4 k5 => ?_)
  have hv : 1 ≤ v.toInt ∧ v.toInt ≤ 20 := by split at k3 <;> omega
  obtain ⟨s, hs0⟩ : ∃ s, c + v = s := ⟨_, rfl⟩
  have e1 : s.toInt = c.toInt + v.toInt := by
    rw [← hs0]
    exact i32_add (by omega) (by omega)
  obtain ⟨eK, eS⟩ := kE (m := s) hb hd (by omega)
  have hk : kfE [.ref b, .int s] w ≤ 1 := by
    rw [eK]
    split <;> omega
  have hs : sfE [.ref b, .int s] w ≤ 170 := by
    split at eS <;> omega
  simp only [eJ5_append_66267_10, eJ5_append_66267_11, eJ5_append_66267_13, eJ5_append_66267_13N, eJ5_append_66267_14, eJ5_append_66267_16, ite_le, n45, n54, true_or, or_true, false_or, or_false, false_and, and_false, kx_l, kx_r, go_s, gl_s, gi_s, gb_s2, gb_s3, gq_s, wt_nil, wt_int, wt_long, wt_ref, wt_null, nl_int, nl_long, nl_ref, nl_null, nl_none, rf_n, rf_s, rf_st, tl_s, tl_n, g0, gS, ex1, nb_b, nb_0, nb_1, nf_i, nf_l, nf_ra, nf_ro, nf_na, nf_no, nf_b0, nf_z0, t45_4, t45_5, true_and, and_true, List.set_cons_zero, List.set_cons_succ, List.length_cons, List.length_nil, rd_s, upw_s, ne_eq, not_false_eq_true, Nat.zero_add, Nat.add_zero, if_true, if_false, eq_self, rb, hb, hs0, hk, hs]
  repeat' first | with_reducible refine And.intro ?_ ?_ | omega
  refine sJ5_ensureCapacityInternal_d00df hS hT (by omega) (by omega) (by omega) (fun h => ⟨by rw [eK, if_pos h]; exact Nat.le_refl _, by rw [eS, if_pos h]; exact Int.le_refl _⟩) (fun h => ?_) (fun d' N' w' h1 h2 hT' => ?_)
  · simp only [eJ5_append_66267_10, eJ5_append_66267_11, eJ5_append_66267_13, eJ5_append_66267_13N, eJ5_append_66267_14, eJ5_append_66267_16, ite_le, n45, n54, true_or, or_true, false_or, or_false, false_and, and_false, kx_l, kx_r, go_s, gl_s, gi_s, gb_s2, gb_s3, gq_s, wt_nil, wt_int, wt_long, wt_ref, wt_null, nl_int, nl_long, nl_ref, nl_null, nl_none, rf_n, rf_s, rf_st, tl_s, tl_n, g0, gS, ex1, nb_b, nb_0, nb_1, nf_i, nf_l, nf_ra, nf_ro, nf_na, nf_no, nf_b0, nf_z0, t45_4, t45_5, true_and, and_true, List.set_cons_zero, List.set_cons_succ, List.length_cons, List.length_nil, rd_s, upw_s, ne_eq, not_false_eq_true, Nat.zero_add, Nat.add_zero, if_true, if_false, eq_self]
    exact lJ5_append_66267_19 hS (hD.ext hT.1) hT (by omega) k1 (by rw [e1, k3]) k4 k5 h (by omega) (by omega) (fun w' z => hQ _ _ _ _ hN (by omega) (by omega) z)
  · simp only [eJ5_append_66267_10, eJ5_append_66267_11, eJ5_append_66267_13, eJ5_append_66267_13N, eJ5_append_66267_14, eJ5_append_66267_16, ite_le, n45, n54, true_or, or_true, false_or, or_false, false_and, and_false, kx_l, kx_r, go_s, gl_s, gi_s, gb_s2, gb_s3, gq_s, wt_nil, wt_int, wt_long, wt_ref, wt_null, nl_int, nl_long, nl_ref, nl_null, nl_none, rf_n, rf_s, rf_st, tl_s, tl_n, g0, gS, ex1, nb_b, nb_0, nb_1, nf_i, nf_l, nf_ra, nf_ro, nf_na, nf_no, nf_b0, nf_z0, t45_4, t45_5, true_and, and_true, List.set_cons_zero, List.set_cons_succ, List.length_cons, List.length_nil, rd_s, upw_s, ne_eq, not_false_eq_true, Nat.zero_add, Nat.add_zero, if_true, if_false, eq_self]
    exact lJ5_append_66267_19 hS (hD.ext hT'.1) hT' (by omega) k1 (by rw [e1, k3]) k4 k5 (by omega) (by omega) (by omega) (fun w' z => hQ _ _ _ _ (by omega) (by omega) (by omega) z)
set_option maxHeartbeats 4000000 in
theorem sJ4_append_f7089 {b d N : Nat} {c : Int32} {x : Int64} (hS : SG g) (hT : TS g w0 b d N c w) (hN : N ≤ 170) (hc : c.toInt ≤ 63) (hD : DG g w0) (hQ : ∀ (d' N' : Nat) (c' : Int32) (w' : Hw), N' ≤ 170 → c.toInt ≤ c'.toInt → c'.toInt ≤ c.toInt + 20 → TS g w0 b d' N' c' w' → Q (.inl (some (.ref b))) w') : WP (MJ4_append_f7089 g) Q (0, [some (.ref b), some (.long x), none], [], w, 0, 0) := by
  obtain ⟨ml, f, hb, hd, hf, hc0, hc1, rb, rdd, n1, n2⟩ := hT.opn g
  simp only [eJ4_append_f7089_0, eJ4_append_f7089_0N, eJ4_append_f7089_1, eJ4_append_f7089_2, ite_le, n45, n54, true_or, or_true, false_or, or_false, false_and, and_false, kx_l, kx_r, go_s, gl_s, gi_s, gb_s2, gb_s3, gq_s, wt_nil, wt_int, wt_long, wt_ref, wt_null, nl_int, nl_long, nl_ref, nl_null, nl_none, rf_n, rf_s, rf_st, tl_s, tl_n, g0, gS, ex1, nb_b, nb_0, nb_1, nf_i, nf_l, nf_ra, nf_ro, nf_na, nf_no, nf_b0, nf_z0, t45_4, t45_5, true_and, and_true, List.set_cons_zero, List.set_cons_succ, List.length_cons, List.length_nil, rd_s, upw_s, ne_eq, not_false_eq_true, Nat.zero_add, Nat.add_zero, if_true, if_false, eq_self, rb]
  repeat' first | with_reducible refine And.intro ?_ ?_ | omega
  refine sJ5_append_66267 hS hT hN hc hD (fun d' N' c' w' h1 h2 h3 z => ?_)
  simp only [eJ4_append_f7089_5, eJ4_append_f7089_5R, eJ4_append_f7089_5N, eJ4_append_f7089_6, eJ4_append_f7089_6N, eJ4_append_f7089_7, eJ4_append_f7089_7N, ite_le, n45, n54, true_or, or_true, false_or, or_false, false_and, and_false, kx_l, kx_r, go_s, gl_s, gi_s, gb_s2, gb_s3, gq_s, wt_nil, wt_int, wt_long, wt_ref, wt_null, nl_int, nl_long, nl_ref, nl_null, nl_none, rf_n, rf_s, rf_st, tl_s, tl_n, g0, gS, ex1, nb_b, nb_0, nb_1, nf_i, nf_l, nf_ra, nf_ro, nf_na, nf_no, nf_b0, nf_z0, t45_4, t45_5, true_and, and_true, List.set_cons_zero, List.set_cons_succ, List.length_cons, List.length_nil, rd_s, upw_s, ne_eq, not_false_eq_true, Nat.zero_add, Nat.add_zero, if_true, if_false, eq_self]
  repeat' first | with_reducible refine And.intro ?_ ?_ | omega
  exact hQ _ _ _ _ h1 h2 h3 z
end
end
/-! 60.texu1.lean.txt -/
section
section
variable {g : RO} {Q : Ot → Hw → Prop} {w0 w : Hw}
/-- a text of the program's own -/
def STO (g : RO) (w : Hw) (s : Nat) : Prop := ∃ (v M : Nat) (f : Nat → Int32) (h z : Value), g.2 s = some (.inr (0, [.ref v, .int 0, h, z])) ∧ w s = none ∧ g.2 v = some (.inl (2, M, .inl f)) ∧ w v = none ∧ bOK M f ∧ M ≤ 8
/-- its length is at most Ml -/
def STB (g : RO) (s Ml : Nat) : Prop := ∀ (v M0 : Nat) (f : Nat → Int32) (h z : Value), g.2 s = some (.inr (0, [.ref v, .int 0, h, z])) → g.2 v = some (.inl (2, M0, .inl f)) → M0 ≤ Ml
theorem STO.ext {g : RO} {w w' : Hw} {s : Nat} (h : STO g w s) (k : ext g w w') : STO g w' s := by
  obtain ⟨v, M, f, h1, z, a, b, c, d, e⟩ := h
  exact ⟨v, M, f, h1, z, a, k.2 _ _ a b, c, k.2 _ _ c d, e⟩
set_option maxHeartbeats 4000000 in
theorem lJ5_append_cf1ce_24 {k n : Nat} {b d N s M : Nat} {c : Int32} (hS : SG g) (hs : STO g w s) (hM : ∀ v M0 f h z, g.2 s = some (.inr (0, [.ref v, .int 0, h, z])) → g.2 v = some (.inl (2, M0, .inl f)) → M0 = M) (hT : TS g w0 b d N c w) (hN : N ≤ 1000) (hsN : c.toInt + M ≤ (N : Int)) (hk : k ≤ 1) (hn : n ≤ 170) (hQ : ∀ w', TS g w0 b d N (c + Int32.ofNat M) w' → Q (.inl (some (.ref b))) w') : WP (MJ5_append_cf1ce g) Q (24, [some (.ref b), some (.ref s), some (.int (Int32.ofNat M))], [], w, k, n) := by
  obtain ⟨ml, f, hb, hd, hf, hc0, hc1, rb, rdd, n1, n2⟩ := hT.opn g
  obtain ⟨v, M', fs, h1, z, s1, s2, s3, s4, s5, s6⟩ := hs
  obtain rfl := hM _ _ _ _ _ s1 s3
  have rs := rd_r s1 s2
  have rv := rd_r s3 s4
  have eM := ofN (N := M') (by omega)
  have nM : (Int32.ofNat M').toNatClampNeg = M' := by
    show (Int32.ofNat M').toInt.toNat = M'
    omega
  have nc : c.toNatClampNeg = c.toInt.toNat := rfl
  have c0 : (c < 0) = False := eq_false (i32_of_nlt (by have z0 : (0 : Int32).toInt = 0 := rfl; omega))
  have M0 : (Int32.ofNat M' < 0) = False := eq_false (i32_of_nlt (by have z0 : (0 : Int32).toInt = 0 := rfl; omega))
  have zn : (0 : Int32).toNatClampNeg = 0 := rfl
  have z00 : ((0 : Int32) < 0) = False := eq_false (by decide)
  have es : (c + Int32.ofNat M').toInt = c.toInt + M' := by
    rw [i32_add (by omega) (by omega), eM]
  have nb : v ≠ b := fun e => by
    rw [e, hb] at s4
    cases s4
  have nd : v ≠ d := fun e => by
    rw [e, hd] at s4
    cases s4
  simp only [eJ5_append_cf1ce_24, eJ5_append_cf1ce_24N, eJ5_append_cf1ce_25, eJ5_append_cf1ce_25N, eJ5_append_cf1ce_26, eJ5_append_cf1ce_29, eJ5_append_cf1ce_29N, eJ5_append_cf1ce_30R, eJ5_append_cf1ce_30N, eJ5_append_cf1ce_33, eJ5_append_cf1ce_33N, eJ5_append_cf1ce_34, eJ5_append_cf1ce_34R, eJ5_append_cf1ce_35, eJ5_append_cf1ce_38, eJ5_append_cf1ce_39, eJ5_append_cf1ce_40, eJ5_append_cf1ce_43, eJ5_append_cf1ce_43N, eJ5_append_cf1ce_44, eJ5_append_cf1ce_44N, eJ5_putStringAt_47b60_0, eJ5_putStringAt_47b60_0N, eJ5_putStringAt_47b60_1, eJ5_putStringAt_47b60_1N, eJ5_putStringAt_47b60_2R, eJ5_putStringAt_47b60_2N, eJ5_putStringAt_47b60_5, eJ5_putStringAt_47b60_5N, eJ5_putStringAt_47b60_6, eJ5_putStringAt_47b60_6N, eJ5_putStringAt_47b60_7, eJ5_putStringAt_47b60_10, eJ5_putStringAt_47b60_11, eJ5_putStringAt_47b60_11N, eJ5_putStringAt_47b60_12, eJ5_putStringAt_47b60_15R, eJ5_putStringAt_47b60_15N, eJ5_putStringAt_47b60_18, eJ5_inflateIfNeededFor_a7421_0, eJ5_inflateIfNeededFor_a7421_3, eJ5_inflateIfNeededFor_a7421_6, eJ5_inflateIfNeededFor_a7421_6N, eJ5_inflateIfNeededFor_a7421_7, eJ5_inflateIfNeededFor_a7421_10, eJ5_inflateIfNeededFor_a7421_10N, eJ5_inflateIfNeededFor_a7421_11, eJ5_inflateIfNeededFor_a7421_14, eJ5_inflateIfNeededFor_a7421_17, eJ5_inflateIfNeededFor_a7421_17N, eJ5_inflateIfNeededFor_a7421_21, eJ0_getBytes_840e7_0, eJ0_getBytes_840e7_0N, eJ0_getBytes_840e7_1, eJ0_getBytes_840e7_4, eJ0_getBytes_840e7_5, eJ0_getBytes_840e7_8, eJ0_getBytes_840e7_8N, eJ0_getBytes_840e7_9, eJ0_getBytes_840e7_12, eJ0_getBytes_840e7_13, eJ0_getBytes_840e7_13N, eJ0_getBytes_840e7_14, eJ0_getBytes_840e7_15, eJ0_getBytes_840e7_16, eJ0_getBytes_840e7_17, eJ0_getBytes_840e7_17N, eJ0_getBytes_840e7_18, eJ0_getBytes_840e7_21, eJ0_getBytes_840e7_22O, eJ0_getBytes_840e7_22B, eJ0_getBytes_840e7_25, eJ0_getBytes_840e7_28, eJ0_getBytes_840e7_28N, eJ0_getBytes_840e7_29, eJ0_getBytes_840e7_32, eJ0_getBytes_840e7_33, eJ0_getBytes_840e7_33N, eJ0_getBytes_840e7_34, eJ0_getBytes_840e7_35, eJ0_getBytes_840e7_35N, eJ0_getBytes_840e7_36, eJ0_getBytes_840e7_39, eJ0_getBytes_840e7_43, eJ0_coder_7d493_0, eJ0_coder_7d493_3, eJ0_coder_7d493_6, eJ0_coder_7d493_6N, eJ0_coder_7d493_7, eJ0_coder_7d493_10, eJ0_coder_7d493_13, eJ0_coder_7d493_14, ite_le, n45, n54, true_or, or_true, false_or, or_false, false_and, and_false, kx_l, kx_r, go_s, gl_s, gi_s, gb_s2, gb_s3, gq_s, wt_nil, wt_int, wt_long, wt_ref, wt_null, nl_int, nl_long, nl_ref, nl_null, nl_none, rf_n, rf_s, rf_st, tl_s, tl_n, g0, gS, ex1, nb_b, nb_0, nb_1, nf_i, nf_l, nf_ra, nf_ro, nf_na, nf_no, nf_b0, nf_z0, t45_4, t45_5, true_and, and_true, List.set_cons_zero, List.set_cons_succ, List.length_cons, List.length_nil, rd_s, upw_s, ne_eq, not_false_eq_true, Nat.zero_add, Nat.add_zero, if_true, if_false, eq_self, hS.1, zz1, rb, hb, rdd, hd, rs, rv, n1, n2, nb, nd, upw_n, rd_n, upw2, exal, al26, shl0, c0, M0, zn, z00, nM, nc, eJ0_getBytes_840e7_22B rv hd]
  repeat' first | with_reducible refine And.intro ?_ ?_ | omega
  all_goals first
    | rfl
    | exact fun j hj => s5 j (by omega)
    | exact hQ _ (hT.fin (bOK_cpy (N0 := M') s5 hf (by omega)) (by omega) (by omega))
set_option maxHeartbeats 4000000 in
theorem sJ5_append_cf1ce {b d N s Ml : Nat} {c : Int32} (hS : SG g) (hT : TS g w0 b d N c w) (hN : N ≤ 170) (hc : c.toInt ≤ 63) (hs : STO g w0 s) (hB : STB g s Ml) (hQ : ∀ (d' N' : Nat) (c' : Int32) (w' : Hw), N' ≤ 170 → c.toInt ≤ c'.toInt → c'.toInt ≤ c.toInt + (Ml : Int) → TS g w0 b d' N' c' w' → Q (.inl (some (.ref b))) w') : WP (MJ5_append_cf1ce g) Q (0, [some (.ref b), some (.ref s), none], [], w, 0, 0) := by
  obtain ⟨ml, f, hb, hd, hf, hc0, hc1, rb, rdd, n1, n2⟩ := hT.opn g
  have hs1 := hs.ext hT.1
  obtain ⟨v, M, fs, h1, z, s1, s2, s3, s4, s5, s6⟩ := id hs1
  have rs := rd_r s1 s2
  have rv := rd_r s3 s4
  have eM := ofN (N := M) (by omega)
  have hM : ∀ v M0 f h z, g.2 s = some (.inr (0, [.ref v, .int 0, h, z])) → g.2 v = some (.inl (2, M0, .inl f)) → M0 = M := fun v' M0 f' h' z' q1 q2 => by
    rw [s1] at q1
    cases q1
    rw [s3] at q2
    cases q2
    rfl
  have hBM := hB _ _ _ _ _ s1 s3
  obtain ⟨m, hm⟩ : ∃ m, c + Int32.ofNat M = m := ⟨_, rfl⟩
  have e1 : m.toInt = c.toInt + M := by
    rw [← hm, i32_add (by omega) (by omega), eM]
  obtain ⟨eK, eS⟩ := kE (m := m) hb hd (by omega)
  have hk : kfE [.ref b, .int m] w ≤ 1 := by
    rw [eK]
    split <;> omega
  have hsE : sfE [.ref b, .int m] w ≤ 170 := by
    split at eS <;> omega
  simp only [eJ5_append_cf1ce_0, eJ5_append_cf1ce_0N, eJ5_append_cf1ce_1R, eJ5_append_cf1ce_1N, eJ5_append_cf1ce_4, eJ5_append_cf1ce_4N, eJ5_append_cf1ce_8, eJ5_append_cf1ce_8N, eJ5_append_cf1ce_9, eJ5_append_cf1ce_9N, eJ5_append_cf1ce_10, eJ5_append_cf1ce_13, eJ5_append_cf1ce_14, eJ5_append_cf1ce_14N, eJ5_append_cf1ce_15, eJ5_append_cf1ce_15N, eJ5_append_cf1ce_16, eJ5_append_cf1ce_19, eJ5_append_cf1ce_20, eJ5_append_cf1ce_21, eJ0_length_8abf5_0, eJ0_length_8abf5_0N, eJ0_length_8abf5_1, eJ0_length_8abf5_4, eJ0_length_8abf5_5, eJ0_length_8abf5_5N, eJ0_length_8abf5_6, eJ0_length_8abf5_9, eJ0_length_8abf5_10, eJ0_coder_7d493_0, eJ0_coder_7d493_3, eJ0_coder_7d493_6, eJ0_coder_7d493_6N, eJ0_coder_7d493_7, eJ0_coder_7d493_10, eJ0_coder_7d493_13, eJ0_coder_7d493_14, ite_le, n45, n54, true_or, or_true, false_or, or_false, false_and, and_false, kx_l, kx_r, go_s, gl_s, gi_s, gb_s2, gb_s3, gq_s, wt_nil, wt_int, wt_long, wt_ref, wt_null, nl_int, nl_long, nl_ref, nl_null, nl_none, rf_n, rf_s, rf_st, tl_s, tl_n, g0, gS, ex1, nb_b, nb_0, nb_1, nf_i, nf_l, nf_ra, nf_ro, nf_na, nf_no, nf_b0, nf_z0, t45_4, t45_5, true_and, and_true, List.set_cons_zero, List.set_cons_succ, List.length_cons, List.length_nil, rd_s, upw_s, ne_eq, not_false_eq_true, Nat.zero_add, Nat.add_zero, if_true, if_false, eq_self, hS.1, zz1, rb, hb, rs, rv, exal, al26, shr0, hm, hk, hsE]
  repeat' first | with_reducible refine And.intro ?_ ?_ | omega
  all_goals try rfl
  refine sJ5_ensureCapacityInternal_d00df hS hT (by omega) (by omega) (by omega) (fun h => ⟨by rw [eK, if_pos h]; exact Nat.le_refl _, by rw [eS, if_pos h]; exact Int.le_refl _⟩) (fun h => ?_) (fun d' N' w' h1 h2 hT' => ?_)
  · simp only [kx_l]
    exact lJ5_append_cf1ce_24 hS hs1 hM hT (by omega) (by omega) (by omega) (by omega) (fun w' z => hQ _ _ _ _ hN (by rw [hm]; omega) (by rw [hm]; omega) z)
  · simp only [kx_l]
    exact lJ5_append_cf1ce_24 hS (hs.ext hT'.1) hM hT' (by omega) (by omega) (by omega) (by omega) (fun w' z => hQ _ _ _ _ (by omega) (by rw [hm]; omega) (by rw [hm]; omega) z)
set_option maxHeartbeats 4000000 in
theorem sJ4_append_15ec4 {b d N s Ml : Nat} {c : Int32} (hS : SG g) (hT : TS g w0 b d N c w) (hN : N ≤ 170) (hc : c.toInt ≤ 63) (hs : STO g w0 s) (hB : STB g s Ml) (hQ : ∀ (d' N' : Nat) (c' : Int32) (w' : Hw), N' ≤ 170 → c.toInt ≤ c'.toInt → c'.toInt ≤ c.toInt + (Ml : Int) → TS g w0 b d' N' c' w' → Q (.inl (some (.ref b))) w') : WP (MJ4_append_15ec4 g) Q (0, [some (.ref b), some (.ref s)], [], w, 0, 0) := by
  obtain ⟨ml, f, hb, hd, hf, hc0, hc1, rb, rdd, n1, n2⟩ := hT.opn g
  simp only [eJ4_append_15ec4_0, eJ4_append_15ec4_0N, eJ4_append_15ec4_1, eJ4_append_15ec4_1N, eJ4_append_15ec4_2R, eJ4_append_15ec4_2N, ite_le, n45, n54, true_or, or_true, false_or, or_false, false_and, and_false, kx_l, kx_r, go_s, gl_s, gi_s, gb_s2, gb_s3, gq_s, wt_nil, wt_int, wt_long, wt_ref, wt_null, nl_int, nl_long, nl_ref, nl_null, nl_none, rf_n, rf_s, rf_st, tl_s, tl_n, g0, gS, ex1, nb_b, nb_0, nb_1, nf_i, nf_l, nf_ra, nf_ro, nf_na, nf_no, nf_b0, nf_z0, t45_4, t45_5, true_and, and_true, List.set_cons_zero, List.set_cons_succ, List.length_cons, List.length_nil, rd_s, upw_s, ne_eq, not_false_eq_true, Nat.zero_add, Nat.add_zero, if_true, if_false, eq_self, rb]
  repeat' first | with_reducible refine And.intro ?_ ?_ | omega
  refine sJ5_append_cf1ce hS hT hN hc hs hB (fun d' N' c' w' h1 h2 h3 z => ?_)
  simp only [eJ4_append_15ec4_5, eJ4_append_15ec4_5R, eJ4_append_15ec4_5N, eJ4_append_15ec4_6, eJ4_append_15ec4_6N, eJ4_append_15ec4_7, eJ4_append_15ec4_7N, ite_le, n45, n54, true_or, or_true, false_or, or_false, false_and, and_false, kx_l, kx_r, go_s, gl_s, gi_s, gb_s2, gb_s3, gq_s, wt_nil, wt_int, wt_long, wt_ref, wt_null, nl_int, nl_long, nl_ref, nl_null, nl_none, rf_n, rf_s, rf_st, tl_s, tl_n, g0, gS, ex1, nb_b, nb_0, nb_1, nf_i, nf_l, nf_ra, nf_ro, nf_na, nf_no, nf_b0, nf_z0, t45_4, t45_5, true_and, and_true, List.set_cons_zero, List.set_cons_succ, List.length_cons, List.length_nil, rd_s, upw_s, ne_eq, not_false_eq_true, Nat.zero_add, Nat.add_zero, if_true, if_false, eq_self]
  repeat' first | with_reducible refine And.intro ?_ ?_ | omega
  exact hQ _ _ _ _ h1 h2 h3 z
end
end
/-! 61.list0.lean.txt -/
section
section
variable {g : RO} {Q : Ot → Hw → Prop} {w0 w : Hw}
/-- a row of the model: four longs -/
def isRow (w : Hw) (b : Nat) : Prop := ∃ f : Nat → Int64, w b = some (.inl (0, 4, .inr (.inl f)))
theorem isRow.ext {g : RO} {w w' : Hw} {b : Nat} (h : isRow w b) (k : ext g w w') : isRow w' b := h.imp fun _ z => k.1 b _ z
theorem isRow_up {w : Hw} {a b : Nat} {o1 o2 : Ob} (h : isRow w b) (ha : w a = some o1) (ho : ∀ z, o1 ≠ .inl (0, 4, z)) : isRow (upw w a o2) b := by
  obtain ⟨f, h⟩ := h
  refine ⟨f, ?_⟩
  rw [upw_n]
  · exact h
  · rintro rfl
    rw [ha] at h
    cases h
    exact ho _ rfl
theorem gl_Row {g : RO} {w : Hw} {b : Nat} {K : Nat → (Nat → Int64) → Prop} (h : isRow w b) (k : ∀ f, K 4 f) : gl (rd g w b) 0 K := by
  obtain ⟨f, h⟩ := h
  rw [rd_e h, gl_s]
  exact k f
theorem gl_Roww {w : Hw} {b : Nat} {K : Nat → (Nat → Int64) → Prop} (h : isRow w b) (k : ∀ f, K 4 f) : gl (w b) 0 K := by
  obtain ⟨f, h⟩ := h
  rw [h, gl_s]
  exact k f
/-- the empty row of an empty list, the class object -/
def EG (g : RO) (w : Hw) : Prop := (∃ e : Nat, g.1 0 = .ref e ∧ g.2 e = some (.inl (5, 0, qc fun _ => none)) ∧ w e = none) ∧ ∃ mi : Nat, g.1 10 = .ref mi
theorem EG.ext {g : RO} {w w' : Hw} (h : EG g w) (k : ext g w w') : EG g w' := ⟨h.1.imp fun e z => ⟨z.1, z.2.1, k.2 e _ z.2.1 z.2.2⟩, h.2⟩
/-- a list: its row of references has cap places, the first n are taken -/
def LL (g : RO) (w : Hw) (L D cap : Nat) (n : Int32) (h : Nat → Option Nat) : Prop := (∃ mc : Int32, w L = some (.inr (3, [.int mc, .ref D, .int n]))) ∧ ((w D = some (.inl (5, cap, qc h)) ∧ (cap = 10 ∨ cap = 15)) ∨ (cap = 0 ∧ g.1 0 = .ref D ∧ w D = none ∧ g.2 D = some (.inl (5, 0, qc h)))) ∧ 0 ≤ n.toInt ∧ n.toInt ≤ (cap : Int)
theorem LL.opn {g : RO} {w : Hw} {L D cap : Nat} {n : Int32} {h : Nat → Option Nat} (k : LL g w L D cap n h) : ∃ mc : Int32, w L = some (.inr (3, [.int mc, .ref D, .int n])) ∧ rd g w L = some (.inr (3, [.int mc, .ref D, .int n])) ∧ rd g w D = some (.inl (5, cap, qc h)) ∧ 0 ≤ n.toInt ∧ n.toInt ≤ (cap : Int) ∧ L ≠ D ∧ D ≠ L := by
  obtain ⟨⟨mc, h1⟩, h2, h3, h4⟩ := k
  have r : rd g w D = some (.inl (5, cap, qc h)) := by
    rcases h2 with ⟨h2, -⟩ | ⟨rfl, -, h5, h6⟩
    · exact rd_e h2
    · exact (by unfold rd; rw [h5]; exact h6)
  have ne : L ≠ D := fun e => by
    subst e
    rw [rd_e h1] at r
    cases r
  exact ⟨mc, h1, rd_e h1, r, h3, h4, ne, ne.symm⟩
theorem i32_f {a b : Int32} (h : b.toInt ≤ a.toInt) : (a < b) = False := eq_false (i32_of_nlt h)
theorem i32_t {a b : Int32} (h : a.toInt < b.toInt) : (a < b) = True := eq_true (i32_of_lt h)
theorem i32_z {a : Int32} (h : 0 ≤ a.toInt) : (a < 0) = False := i32_f (by have e : (0 : Int32).toInt = 0 := rfl; omega)
theorem al56 : ((5 : Nat) < 6) = True := eq_true (by decide)
theorem exal2 {a : Nat} {b : vp_A} {P : vp_A → Prop} : (∃ (t : Nat) (z : vp_A), (some (.inl (a, b)) : Option Ob) = some (.inl (t, z)) ∧ t < 6 ∧ P z) = (a < 6 ∧ P b) := propext ⟨fun ⟨t, z, e, h, k⟩ => by cases e; exact ⟨h, k⟩, fun h => ⟨a, b, rfl, h⟩⟩
theorem vpiM {a : Int32} {N : Nat} (h0 : (0 : Int) ≤ a.toInt) (h1 : a.toInt < (N : Int)) : vp_in a N := by
  rintro (h | h)
  · have := i32_lt h
    have e : (0 : Int32).toInt = 0 := rfl
    omega
  · have e1 : a.toNatClampNeg = a.toInt.toNat := rfl
    omega
set_option maxHeartbeats 4000000 in
theorem sJx4a65c_size {L D cap : Nat} {n : Int32} {h : Nat → Option Nat} (hl : LL g w L D cap n h) (hQ : Q (.inl (some (.int n))) w) : WP (MJx4a65c_size_8abf5 g) Q (0, [some (.ref L)], [], w, 0, 0) := by
  obtain ⟨mc, hL, rL, rD, hn0, hn1, n1, n2⟩ := hl.opn
  simp only [eJx4a65c_size_8abf5_0, eJx4a65c_size_8abf5_0N, eJx4a65c_size_8abf5_1, eJx4a65c_size_8abf5_4, ite_le, n45, n54, true_or, or_true, false_or, or_false, false_and, and_false, kx_l, kx_r, go_s, gl_s, gi_s, gb_s2, gb_s3, gq_s, wt_nil, wt_int, wt_long, wt_ref, wt_null, nl_int, nl_long, nl_ref, nl_null, nl_none, rf_n, rf_s, rf_st, tl_s, tl_n, g0, gS, ex1, nb_b, nb_0, nb_1, nf_i, nf_l, nf_ra, nf_ro, nf_na, nf_no, nf_b0, nf_z0, t45_4, t45_5, true_and, and_true, List.set_cons_zero, List.set_cons_succ, List.length_cons, List.length_nil, rd_s, upw_s, ne_eq, not_false_eq_true, Nat.zero_add, Nat.add_zero, if_true, if_false, rL]
  repeat' first | with_reducible refine And.intro ?_ ?_ | omega
  all_goals try exact hQ
set_option maxHeartbeats 4000000 in
theorem sJx4a65c_get {L D cap : Nat} {n i : Int32} {h : Nat → Option Nat} (hl : LL g w L D cap n h) (k0 : 0 ≤ i.toInt) (k1 : i.toInt < n.toInt) (hN : h i.toNatClampNeg = none → Q (.inl (some .null)) w) (hR : ∀ b, h i.toNatClampNeg = some b → Q (.inl (some (.ref b))) w) : WP (MJx4a65c_get_915e3 g) Q (0, [some (.ref L), some (.int i)], [], w, 0, 0) := by
  obtain ⟨mc, hL, rL, rD, hn0, hn1, n1, n2⟩ := hl.opn
  have iv : vp_in i cap := vpiM k0 (by omega)
  repeat' first
    | with_reducible assumption
    | with_reducible refine And.intro ?_ ?_
    | with_reducible exact hN (by assumption)
    | with_reducible exact hR _ (by assumption)
    | simp only [eJx4a65c_get_915e3_0, eJx4a65c_get_915e3_1, eJx4a65c_get_915e3_1N, eJx4a65c_get_915e3_2, eJx4a65c_get_915e3_5, eJx4a65c_get_915e3_8, eJx4a65c_get_915e3_8R, eJx4a65c_get_915e3_8N, eJx4a65c_get_915e3_9, eJx4a65c_get_915e3_9N, eJx4a65c_get_915e3_10, eJx4a65c_get_915e3_11, eJx4a65c_get_915e3_14, eJx4a65c_get_915e3_14N, eJx4a65c_elementData_915e3_0, eJx4a65c_elementData_915e3_0N, eJx4a65c_elementData_915e3_1, eJx4a65c_elementData_915e3_4, eJx4a65c_elementData_915e3_5, eJx4a65c_elementData_915e3_6, eJx4a65c_elementData_915e3_6N, eJ15_checkIndex_7cf53_0, eJ15_checkIndex_7cf53_1, eJ15_checkIndex_7cf53_2, eJ15_checkIndex_7cf53_3R, eJ15_checkIndex_7cf53_3N, eJ15_checkIndex_7cf53_6, eJ3_checkIndex_8e157_0, eJ3_checkIndex_8e157_1, eJ3_checkIndex_8e157_4, eJ3_checkIndex_8e157_5, eJ3_checkIndex_8e157_6, eJ3_checkIndex_8e157_9, eJ3_checkIndex_8e157_9N, eJ3_checkIndex_8e157_10, eJ3_checkIndex_8e157_11, eJ3_checkIndex_8e157_16, eJ3_checkIndex_8e157_17, ite_le, n45, n54, true_or, or_true, false_or, or_false, false_and, and_false, kx_l, kx_r, go_s, gl_s, gi_s, gb_s2, gb_s3, gq_s, wt_nil, wt_int, wt_long, wt_ref, wt_null, nl_int, nl_long, nl_ref, nl_null, nl_none, rf_n, rf_s, rf_st, tl_s, tl_n, g0, gS, ex1, nb_b, nb_0, nb_1, nf_i, nf_l, nf_ra, nf_ro, nf_na, nf_no, nf_b0, nf_z0, t45_4, t45_5, true_and, and_true, List.set_cons_zero, List.set_cons_succ, List.length_cons, List.length_nil, rd_s, upw_s, ne_eq, not_false_eq_true, Nat.zero_add, Nat.add_zero, if_true, if_false, rL, rD, i32_z k0, i32_t k1, exal2, al56]
    | with_reducible intro _
    | omega
set_option maxHeartbeats 4000000 in
theorem sJx4a65c_setN {L D cap : Nat} {n i : Int32} {h : Nat → Option Nat} (hl : LL g w L D cap n h) (hD : w D = some (.inl (5, cap, qc h))) (k0 : 0 ≤ i.toInt) (k1 : i.toInt < n.toInt) (hN : h i.toNatClampNeg = none → Q (.inl (some .null)) (upw w D (.inl (5, cap, qc (va_up h i.toNatClampNeg none))))) (hR : ∀ b0, h i.toNatClampNeg = some b0 → Q (.inl (some (.ref b0))) (upw w D (.inl (5, cap, qc (va_up h i.toNatClampNeg none))))) : WP (MJx4a65c_set_bcc79 g) Q (0, [some (.ref L), some (.int i), some .null, none], [], w, 0, 0) := by
  obtain ⟨mc, hL, rL, rD, hn0, hn1, n1, n2⟩ := hl.opn
  have iv : vp_in i cap := vpiM k0 (by omega)
  repeat' first
    | with_reducible assumption
    | with_reducible refine And.intro ?_ ?_
    | with_reducible exact hN (by assumption)
    | with_reducible exact hR _ (by assumption)
    | with_reducible refine Or.inr ?_
    | with_reducible refine gl_Roww (by assumption) ?_
    | simp only [eJx4a65c_set_bcc79_0, eJx4a65c_set_bcc79_1, eJx4a65c_set_bcc79_1N, eJx4a65c_set_bcc79_2, eJx4a65c_set_bcc79_5, eJx4a65c_set_bcc79_8, eJx4a65c_set_bcc79_8R, eJx4a65c_set_bcc79_8N, eJx4a65c_set_bcc79_9, eJx4a65c_set_bcc79_9N, eJx4a65c_set_bcc79_10, eJx4a65c_set_bcc79_11, eJx4a65c_set_bcc79_14, eJx4a65c_set_bcc79_14N, eJx4a65c_set_bcc79_15, eJx4a65c_set_bcc79_15N, eJx4a65c_set_bcc79_16, eJx4a65c_set_bcc79_19, eJx4a65c_set_bcc79_20, eJx4a65c_set_bcc79_20N, eJx4a65c_set_bcc79_21N, eJx4a65c_set_bcc79_21R, eJx4a65c_set_bcc79_22, eJx4a65c_set_bcc79_22N, eJx4a65c_set_bcc79_23, eJx4a65c_set_bcc79_23N, eJx4a65c_elementData_915e3_0, eJx4a65c_elementData_915e3_0N, eJx4a65c_elementData_915e3_1, eJx4a65c_elementData_915e3_4, eJx4a65c_elementData_915e3_5, eJx4a65c_elementData_915e3_6, eJx4a65c_elementData_915e3_6N, eJ15_checkIndex_7cf53_0, eJ15_checkIndex_7cf53_1, eJ15_checkIndex_7cf53_2, eJ15_checkIndex_7cf53_3R, eJ15_checkIndex_7cf53_3N, eJ15_checkIndex_7cf53_6, eJ3_checkIndex_8e157_0, eJ3_checkIndex_8e157_1, eJ3_checkIndex_8e157_4, eJ3_checkIndex_8e157_5, eJ3_checkIndex_8e157_6, eJ3_checkIndex_8e157_9, eJ3_checkIndex_8e157_9N, eJ3_checkIndex_8e157_10, eJ3_checkIndex_8e157_11, eJ3_checkIndex_8e157_16, eJ3_checkIndex_8e157_17, ite_le, n45, n54, true_or, or_true, false_or, or_false, false_and, and_false, kx_l, kx_r, go_s, gl_s, gi_s, gb_s2, gb_s3, gq_s, wt_nil, wt_int, wt_long, wt_ref, wt_null, nl_int, nl_long, nl_ref, nl_null, nl_none, rf_n, rf_s, rf_st, tl_s, tl_n, g0, gS, ex1, nb_b, nb_0, nb_1, nf_i, nf_l, nf_ra, nf_ro, nf_na, nf_no, nf_b0, nf_z0, t45_4, t45_5, true_and, and_true, List.set_cons_zero, List.set_cons_succ, List.length_cons, List.length_nil, rd_s, upw_s, ne_eq, not_false_eq_true, Nat.zero_add, Nat.add_zero, if_true, if_false, rL, rD, hD, i32_z k0, i32_t k1, exal2, al56]
    | with_reducible intro _
    | omega
set_option maxHeartbeats 4000000 in
theorem sJx4a65c_setR {L D cap b : Nat} {n i : Int32} {h : Nat → Option Nat} (hb : isRow w b) (hl : LL g w L D cap n h) (hD : w D = some (.inl (5, cap, qc h))) (k0 : 0 ≤ i.toInt) (k1 : i.toInt < n.toInt) (hN : h i.toNatClampNeg = none → Q (.inl (some .null)) (upw w D (.inl (5, cap, qc (va_up h i.toNatClampNeg (some b)))))) (hR : ∀ b0, h i.toNatClampNeg = some b0 → Q (.inl (some (.ref b0))) (upw w D (.inl (5, cap, qc (va_up h i.toNatClampNeg (some b)))))) : WP (MJx4a65c_set_bcc79 g) Q (0, [some (.ref L), some (.int i), some (.ref b), none], [], w, 0, 0) := by
  obtain ⟨mc, hL, rL, rD, hn0, hn1, n1, n2⟩ := hl.opn
  have iv : vp_in i cap := vpiM k0 (by omega)
  repeat' first
    | with_reducible assumption
    | with_reducible refine And.intro ?_ ?_
    | with_reducible exact hN (by assumption)
    | with_reducible exact hR _ (by assumption)
    | with_reducible refine Or.inr ?_
    | with_reducible refine gl_Roww (by assumption) ?_
    | simp only [eJx4a65c_set_bcc79_0, eJx4a65c_set_bcc79_1, eJx4a65c_set_bcc79_1N, eJx4a65c_set_bcc79_2, eJx4a65c_set_bcc79_5, eJx4a65c_set_bcc79_8, eJx4a65c_set_bcc79_8R, eJx4a65c_set_bcc79_8N, eJx4a65c_set_bcc79_9, eJx4a65c_set_bcc79_9N, eJx4a65c_set_bcc79_10, eJx4a65c_set_bcc79_11, eJx4a65c_set_bcc79_14, eJx4a65c_set_bcc79_14N, eJx4a65c_set_bcc79_15, eJx4a65c_set_bcc79_15N, eJx4a65c_set_bcc79_16, eJx4a65c_set_bcc79_19, eJx4a65c_set_bcc79_20, eJx4a65c_set_bcc79_20N, eJx4a65c_set_bcc79_21N, eJx4a65c_set_bcc79_21R, eJx4a65c_set_bcc79_22, eJx4a65c_set_bcc79_22N, eJx4a65c_set_bcc79_23, eJx4a65c_set_bcc79_23N, eJx4a65c_elementData_915e3_0, eJx4a65c_elementData_915e3_0N, eJx4a65c_elementData_915e3_1, eJx4a65c_elementData_915e3_4, eJx4a65c_elementData_915e3_5, eJx4a65c_elementData_915e3_6, eJx4a65c_elementData_915e3_6N, eJ15_checkIndex_7cf53_0, eJ15_checkIndex_7cf53_1, eJ15_checkIndex_7cf53_2, eJ15_checkIndex_7cf53_3R, eJ15_checkIndex_7cf53_3N, eJ15_checkIndex_7cf53_6, eJ3_checkIndex_8e157_0, eJ3_checkIndex_8e157_1, eJ3_checkIndex_8e157_4, eJ3_checkIndex_8e157_5, eJ3_checkIndex_8e157_6, eJ3_checkIndex_8e157_9, eJ3_checkIndex_8e157_9N, eJ3_checkIndex_8e157_10, eJ3_checkIndex_8e157_11, eJ3_checkIndex_8e157_16, eJ3_checkIndex_8e157_17, ite_le, n45, n54, true_or, or_true, false_or, or_false, false_and, and_false, kx_l, kx_r, go_s, gl_s, gi_s, gb_s2, gb_s3, gq_s, wt_nil, wt_int, wt_long, wt_ref, wt_null, nl_int, nl_long, nl_ref, nl_null, nl_none, rf_n, rf_s, rf_st, tl_s, tl_n, g0, gS, ex1, nb_b, nb_0, nb_1, nf_i, nf_l, nf_ra, nf_ro, nf_na, nf_no, nf_b0, nf_z0, t45_4, t45_5, true_and, and_true, List.set_cons_zero, List.set_cons_succ, List.length_cons, List.length_nil, rd_s, upw_s, ne_eq, not_false_eq_true, Nat.zero_add, Nat.add_zero, if_true, if_false, rL, rD, hD, i32_z k0, i32_t k1, exal2, al56]
    | with_reducible intro _
    | omega
set_option maxHeartbeats 4000000 in
theorem sJx4a65c_init {L : Nat} (hE : EG g w) (hL : w L = some (.inr (3, [.int 0, .null, .int 0]))) (hQ : ∀ D w', (∀ (a : Nat) (o : Ob), w a = some o → a ≠ L → w' a = some o) → (∀ (a : Nat) (o : Ob), g.2 a = some o → w a = none → w' a = none) → LL g w' L D 0 0 (fun _ => none) → Q (.inl none) w') : WP (MJx4a65c_init_da8c8 g) Q (0, [some (.ref L)], [], w, 0, 0) := by
  obtain ⟨⟨e, e1, e2, e3⟩, -⟩ := hE
  have hne : e ≠ L := fun z => by
    rw [z, hL] at e3
    cases e3
  have rL : rd g w L = some (.inr (3, [.int 0, .null, .int 0])) := rd_e hL
  simp only [eJx4a65c_init_da8c8_0, eJx4a65c_init_da8c8_0N, eJx4a65c_init_da8c8_1, eJx4a65c_init_da8c8_4, eJx4a65c_init_da8c8_4N, eJx4a65c_init_da8c8_5, eJx4a65c_init_da8c8_8, eJx4a65c_init_da8c8_11, eJxc12de_init_da8c8_0, eJxc12de_init_da8c8_0N, eJxc12de_init_da8c8_1, eJxc12de_init_da8c8_4, eJxc12de_init_da8c8_4N, eJxc12de_init_da8c8_5, eJxc12de_init_da8c8_6, eJxc12de_init_da8c8_9, eJxa1e45_init_da8c8_0, eJxa1e45_init_da8c8_0N, eJxa1e45_init_da8c8_1, eJxa1e45_init_da8c8_4, ite_le, n45, n54, true_or, or_true, false_or, or_false, false_and, and_false, kx_l, kx_r, go_s, gl_s, gi_s, gb_s2, gb_s3, gq_s, wt_nil, wt_int, wt_long, wt_ref, wt_null, nl_int, nl_long, nl_ref, nl_null, nl_none, rf_n, rf_s, rf_st, tl_s, tl_n, g0, gS, ex1, nb_b, nb_0, nb_1, nf_i, nf_l, nf_ra, nf_ro, nf_na, nf_no, nf_b0, nf_z0, t45_4, t45_5, true_and, and_true, List.set_cons_zero, List.set_cons_succ, List.length_cons, List.length_nil, rd_s, upw_s, ne_eq, not_false_eq_true, Nat.zero_add, Nat.add_zero, if_true, if_false, hL, rL, e1, tyJx4a65c, nf_ra, upw2]
  repeat' first | with_reducible refine And.intro ?_ ?_ | omega
  all_goals try exact trivial
  refine hQ e _ (fun a o h1 h2 => by rw [upw_n h2]; exact h1) (fun a o h1 h2 => ?_) ⟨⟨0, upw_s _ _ _⟩, Or.inr ⟨rfl, e1, by rw [upw_n hne]; exact e3, e2⟩, by decide, by decide⟩
  rw [upw_n]
  · exact h2
  · rintro rfl
    rw [hL] at h2
    cases h2
end
end
/-! 61.list1.lean.txt -/
section
section
variable {g : RO} {Q : Ot → Hw → Prop} {w0 w : Hw}
theorem upw2q {w : Hw} {a : Nat} {o o' : Ob} : upw (upw w a o) a o' = upw w a o' := by
  funext q
  unfold upw
  split <;> rfl
theorem cap0 : (Int32.ofNat 0 : Int32) = 0 := rfl
theorem cap10 : (Int32.ofNat 10 : Int32) = 10 := rfl
theorem cap15 : (Int32.ofNat 15 : Int32) = 15 := rfl
theorem z00 : ((0 : Int32) < 0) = False := eq_false (by decide)
theorem z101 : ((10 : Int32) < 0 + 1) = False := eq_false (by decide)
theorem n100 : ((10 : Int32) < 0) = False := eq_false (by decide)
theorem n150 : ((15 : Int32) < 0) = False := eq_false (by decide)
theorem z010 : ((0 : Int32) < 10) = True := eq_true (by decide)
theorem z015 : ((0 : Int32) < 15) = True := eq_true (by decide)
theorem c1110 : (10 : Int32) + 1 - 10 = 1 := by decide
theorem z15 : ((1 : Int32) < 5) = True := eq_true (by decide)
theorem c105 : (10 : Int32) + 5 = 15 := by decide
theorem zbig : ((2147483639 : Int32) < 15) = False := eq_false (by decide)
theorem z1510 : ((15 : Int32) < 10) = False := eq_false (by decide)
theorem i10n : (10 : Int32).toNatClampNeg = 10 := rfl
theorem i15n : (15 : Int32).toNatClampNeg = 15 := rfl
theorem i0n : (0 : Int32).toNatClampNeg = 0 := rfl
theorem sh10 : (10 : Int32) >>> ((1 : Int32) &&& 31) = 5 := by decide
theorem ac_t {p : Nat} : (ACond.eq = ACond.eq ↔ p = p) = True := eq_true ⟨fun _ => rfl, fun _ => rfl⟩
theorem ac_n {p : Nat} : (ACond.ne = ACond.eq ↔ p = p) = False := eq_false fun h => by have := h.mpr rfl; cases this
theorem acT : (ACond.eq = ACond.eq ↔ True) = True := eq_true ⟨fun _ => trivial, fun _ => rfl⟩
theorem acF : (ACond.ne = ACond.eq ↔ True) = False := eq_false fun h => by have := h.mpr trivial; cases this
theorem i32_eq {a b : Int32} (h : a.toInt = b.toInt) : a = b := Int32.toInt_inj.mp h
set_option maxHeartbeats 4000000 in
theorem sJx4a65c_grow0 {L D : Nat} {mc n : Int32} {h : Nat → Option Nat} (hE : EG g w) (hS : SG g) (hL : w L = some (.inr (3, [.int mc, .ref D, .int n]))) (hD : g.1 0 = .ref D ∧ w D = none ∧ g.2 D = some (.inl (5, 0, qc h))) (hn : n = 0) (hQ : ∀ q, rd g w q = none → Q (.inl (some (.ref q))) (upw (upw w q (.inl (5, 10, qc fun _ => none))) L (.inr (3, [.int mc, .ref q, .int n])))) : WP (MJx4a65c_grow_d5877 g) Q (0, [some (.ref L)], [], w, 0, 0) := by
  subst hn
  obtain ⟨d1, d2, d3⟩ := hD
  have rL : rd g w L = some (.inr (3, [.int mc, .ref D, .int 0])) := rd_e hL
  have rD : rd g w D = some (.inl (5, 0, qc h)) := by unfold rd; rw [d2]; exact d3
  simp only [eJx4a65c_grow_d5877_0, eJx4a65c_grow_d5877_0N, eJx4a65c_grow_d5877_1, eJx4a65c_grow_d5877_1N, eJx4a65c_grow_d5877_2, eJx4a65c_grow_d5877_5, eJx4a65c_grow_d5877_6, eJx4a65c_grow_d5877_7, eJx4a65c_grow_d5877_10, eJx4a65c_grow_92f84_0, eJx4a65c_grow_92f84_0N, eJx4a65c_grow_92f84_1, eJx4a65c_grow_92f84_4, eJx4a65c_grow_92f84_5, eJx4a65c_grow_92f84_6, eJx4a65c_grow_92f84_7, eJx4a65c_grow_92f84_10, eJx4a65c_grow_92f84_10N, eJx4a65c_grow_92f84_11, eJx4a65c_grow_92f84_14, eJx4a65c_grow_92f84_17, eJx4a65c_grow_92f84_20, eJx4a65c_grow_92f84_21, eJx4a65c_grow_92f84_22, eJx4a65c_grow_92f84_23, eJx4a65c_grow_92f84_24, eJx4a65c_grow_92f84_25, eJx4a65c_grow_92f84_26, eJx4a65c_grow_92f84_27, eJx4a65c_grow_92f84_30, eJx4a65c_grow_92f84_31, eJx4a65c_grow_92f84_31N, eJx4a65c_grow_92f84_32, eJx4a65c_grow_92f84_32N, eJx4a65c_grow_92f84_33, eJx4a65c_grow_92f84_36, eJx4a65c_grow_92f84_37R, eJx4a65c_grow_92f84_37N, eJx4a65c_grow_92f84_40IR, eJx4a65c_grow_92f84_40RR, eJx4a65c_grow_92f84_41, eJx4a65c_grow_92f84_44, eJx4a65c_grow_92f84_45, eJx4a65c_grow_92f84_45N, eJx4a65c_grow_92f84_46, eJx4a65c_grow_92f84_48, eJx4a65c_grow_92f84_49, eJx4a65c_grow_92f84_52, eJx4a65c_grow_92f84_55IR, eJx4a65c_grow_92f84_55RR, eJx4a65c_grow_92f84_56, eJx4a65c_grow_92f84_59, ite_le, n45, n54, true_or, or_true, false_or, or_false, false_and, and_false, kx_l, kx_r, go_s, gl_s, gi_s, gb_s2, gb_s3, gq_s, wt_nil, wt_int, wt_long, wt_ref, wt_null, nl_int, nl_long, nl_ref, nl_null, nl_none, rf_n, rf_s, rf_st, tl_s, tl_n, g0, gS, ex1, nb_b, nb_0, nb_1, nf_i, nf_l, nf_ra, nf_ro, nf_na, nf_no, nf_b0, nf_z0, t45_4, t45_5, true_and, and_true, List.set_cons_zero, List.set_cons_succ, List.length_cons, List.length_nil, rd_s, upw_s, ne_eq, not_false_eq_true, Nat.zero_add, Nat.add_zero, if_true, if_false, hL, rL, rD, d1, exal2, al56, cap0, ac_t, i10n, i0n, z00, z101, n100]
  repeat' first | with_reducible refine And.intro ?_ ?_ | omega
  intro q hq
  have hqL : L ≠ q := fun e => by
    have h2 := rd_none hq
    rw [← e, hL] at h2
    cases h2
  simp only [eJx4a65c_grow_d5877_0, eJx4a65c_grow_d5877_0N, eJx4a65c_grow_d5877_1, eJx4a65c_grow_d5877_1N, eJx4a65c_grow_d5877_2, eJx4a65c_grow_d5877_5, eJx4a65c_grow_d5877_6, eJx4a65c_grow_d5877_7, eJx4a65c_grow_d5877_10, eJx4a65c_grow_92f84_0, eJx4a65c_grow_92f84_0N, eJx4a65c_grow_92f84_1, eJx4a65c_grow_92f84_4, eJx4a65c_grow_92f84_5, eJx4a65c_grow_92f84_6, eJx4a65c_grow_92f84_7, eJx4a65c_grow_92f84_10, eJx4a65c_grow_92f84_10N, eJx4a65c_grow_92f84_11, eJx4a65c_grow_92f84_14, eJx4a65c_grow_92f84_17, eJx4a65c_grow_92f84_20, eJx4a65c_grow_92f84_21, eJx4a65c_grow_92f84_22, eJx4a65c_grow_92f84_23, eJx4a65c_grow_92f84_24, eJx4a65c_grow_92f84_25, eJx4a65c_grow_92f84_26, eJx4a65c_grow_92f84_27, eJx4a65c_grow_92f84_30, eJx4a65c_grow_92f84_31, eJx4a65c_grow_92f84_31N, eJx4a65c_grow_92f84_32, eJx4a65c_grow_92f84_32N, eJx4a65c_grow_92f84_33, eJx4a65c_grow_92f84_36, eJx4a65c_grow_92f84_37R, eJx4a65c_grow_92f84_37N, eJx4a65c_grow_92f84_40IR, eJx4a65c_grow_92f84_40RR, eJx4a65c_grow_92f84_41, eJx4a65c_grow_92f84_44, eJx4a65c_grow_92f84_45, eJx4a65c_grow_92f84_45N, eJx4a65c_grow_92f84_46, eJx4a65c_grow_92f84_48, eJx4a65c_grow_92f84_49, eJx4a65c_grow_92f84_52, eJx4a65c_grow_92f84_55IR, eJx4a65c_grow_92f84_55RR, eJx4a65c_grow_92f84_56, eJx4a65c_grow_92f84_59, ite_le, n45, n54, true_or, or_true, false_or, or_false, false_and, and_false, kx_l, kx_r, go_s, gl_s, gi_s, gb_s2, gb_s3, gq_s, wt_nil, wt_int, wt_long, wt_ref, wt_null, nl_int, nl_long, nl_ref, nl_null, nl_none, rf_n, rf_s, rf_st, tl_s, tl_n, g0, gS, ex1, nb_b, nb_0, nb_1, nf_i, nf_l, nf_ra, nf_ro, nf_na, nf_no, nf_b0, nf_z0, t45_4, t45_5, true_and, and_true, List.set_cons_zero, List.set_cons_succ, List.length_cons, List.length_nil, rd_s, upw_s, ne_eq, not_false_eq_true, Nat.zero_add, Nat.add_zero, if_true, if_false, hL, rL, hqL, upw_n, tyJx4a65c, nf_ra, rd_n]
  repeat' first | with_reducible refine And.intro ?_ ?_ | omega
  all_goals first | exact trivial | exact hQ q hq
set_option maxHeartbeats 4000000 in
theorem sJx4a65c_grow10 {L D : Nat} {mc n : Int32} {h : Nat → Option Nat} (hE : EG g w) (hS : SG g) (hL : w L = some (.inr (3, [.int mc, .ref D, .int n]))) (hD : w D = some (.inl (5, 10, qc h))) (hh : ∀ i b, h i = some b → isRow w b) (hn : n = 10) (hQ : ∀ q, rd g w q = none → Q (.inl (some (.ref q))) (upw (upw w q (.inl (5, 15, qc (va_cpy h (fun _ => none) 0 0 10)))) L (.inr (3, [.int mc, .ref q, .int n])))) : WP (MJx4a65c_grow_d5877 g) Q (0, [some (.ref L)], [], w, 0, 0) := by
  subst hn
  obtain ⟨⟨e, e1, e2, e3⟩, mi, hmi⟩ := hE
  obtain ⟨hs1, hs2, hs3⟩ := hS
  have rL : rd g w L = some (.inr (3, [.int mc, .ref D, .int 10])) := rd_e hL
  have rD : rd g w D = some (.inl (5, 10, qc h)) := rd_e hD
  simp only [eJx4a65c_grow_d5877_0, eJx4a65c_grow_d5877_0N, eJx4a65c_grow_d5877_1, eJx4a65c_grow_d5877_1N, eJx4a65c_grow_d5877_2, eJx4a65c_grow_d5877_5, eJx4a65c_grow_d5877_6, eJx4a65c_grow_d5877_7, eJx4a65c_grow_d5877_10, eJx4a65c_grow_92f84_0, eJx4a65c_grow_92f84_0N, eJx4a65c_grow_92f84_1, eJx4a65c_grow_92f84_4, eJx4a65c_grow_92f84_5, eJx4a65c_grow_92f84_6, eJx4a65c_grow_92f84_7, eJx4a65c_grow_92f84_10, eJx4a65c_grow_92f84_10N, eJx4a65c_grow_92f84_11, eJx4a65c_grow_92f84_14, eJx4a65c_grow_92f84_17, eJx4a65c_grow_92f84_20, eJx4a65c_grow_92f84_21, eJx4a65c_grow_92f84_22, eJx4a65c_grow_92f84_23, eJx4a65c_grow_92f84_24, eJx4a65c_grow_92f84_25, eJx4a65c_grow_92f84_26, eJx4a65c_grow_92f84_27, eJx4a65c_grow_92f84_30, eJx4a65c_grow_92f84_31, eJx4a65c_grow_92f84_31N, eJx4a65c_grow_92f84_32, eJx4a65c_grow_92f84_32N, eJx4a65c_grow_92f84_33, eJx4a65c_grow_92f84_36, eJx4a65c_grow_92f84_37R, eJx4a65c_grow_92f84_37N, eJx4a65c_grow_92f84_40IR, eJx4a65c_grow_92f84_40RR, eJx4a65c_grow_92f84_41, eJx4a65c_grow_92f84_44, eJx4a65c_grow_92f84_45, eJx4a65c_grow_92f84_45N, eJx4a65c_grow_92f84_46, eJx4a65c_grow_92f84_48, eJx4a65c_grow_92f84_49, eJx4a65c_grow_92f84_52, eJx4a65c_grow_92f84_55IR, eJx4a65c_grow_92f84_55RR, eJx4a65c_grow_92f84_56, eJx4a65c_grow_92f84_59, eJ8_newLength_cabcc_0, eJ8_newLength_cabcc_1, eJ8_newLength_cabcc_2, eJ8_newLength_cabcc_3, eJ8_newLength_cabcc_6, eJ8_newLength_cabcc_7, eJ8_newLength_cabcc_8, eJ8_newLength_cabcc_9, eJ8_newLength_cabcc_10, eJ8_newLength_cabcc_13, eJ8_newLength_cabcc_14, eJ8_newLength_cabcc_16, eJ8_newLength_cabcc_19, eJ8_newLength_cabcc_20, eJ8_newLength_cabcc_21, eJ8_newLength_cabcc_22, eJ8_newLength_cabcc_26, eJ7_copyOf_1904c_0, eJ7_copyOf_1904c_0N, eJ7_copyOf_1904c_1, eJ7_copyOf_1904c_2, eJ7_copyOf_1904c_2N, eJ7_copyOf_1904c_3, eJ7_copyOf_1904c_6RR, eJ7_copyOf_1904c_6NR, eJ7_copyOf_1904c_6RN, eJ7_copyOf_1904c_6NN, eJ7_copyOf_1904c_9, eJ7_copyOf_6403c_0, eJ7_copyOf_6403c_0N, eJ7_copyOf_6403c_1, eJ7_copyOf_6403c_3, eJ7_copyOf_6403c_6, eJ7_copyOf_6403c_7, eJ7_copyOf_6403c_10, eJ7_copyOf_6403c_13, eJ7_copyOf_6403c_13N, eJ7_copyOf_6403c_17, eJ7_copyOf_6403c_24, eJ7_copyOf_6403c_24N, eJ7_copyOf_6403c_25, eJ7_copyOf_6403c_25N, eJ7_copyOf_6403c_26, eJ7_copyOf_6403c_27, eJ7_copyOf_6403c_27N, eJ7_copyOf_6403c_28, eJ7_copyOf_6403c_29, eJ7_copyOf_6403c_29N, eJ7_copyOf_6403c_30, eJ7_copyOf_6403c_31, eJ7_copyOf_6403c_32, eJ7_copyOf_6403c_35O, eJ7_copyOf_6403c_35B, eJ7_copyOf_6403c_38, eJ7_copyOf_6403c_38N, eJ7_copyOf_6403c_39, ite_le, n45, n54, true_or, or_true, false_or, or_false, false_and, and_false, kx_l, kx_r, go_s, gl_s, gi_s, gb_s2, gb_s3, gq_s, wt_nil, wt_int, wt_long, wt_ref, wt_null, nl_int, nl_long, nl_ref, nl_null, nl_none, rf_n, rf_s, rf_st, tl_s, tl_n, g0, gS, ex1, nb_b, nb_0, nb_1, nf_i, nf_l, nf_ra, nf_ro, nf_na, nf_no, nf_b0, nf_z0, t45_4, t45_5, true_and, and_true, List.set_cons_zero, List.set_cons_succ, List.length_cons, List.length_nil, rd_s, upw_s, ne_eq, not_false_eq_true, Nat.zero_add, Nat.add_zero, if_true, if_false, hL, rL, rD, exal2, al56, cap10, sh10, hs2, hmi, ac_t, ac_n, acT, acF, i15n, i10n, i0n, z010, z015, c1110, z15, c105, zbig, n150, n100, eJ7_copyOf_1904c_3 hD]
  repeat' first | with_reducible refine And.intro ?_ ?_ | omega
  intro q hq
  have hqn := rd_none hq
  have hqL : L ≠ q := fun e => by
    rw [← e, hL] at hqn
    cases hqn
  have hqD : D ≠ q := fun e => by
    rw [← e, hD] at hqn
    cases hqn
  have hD2 : upw w q (.inl (5, 15, qc fun _ => none)) D = some (.inl (5, 10, qc h)) := by rw [upw_n hqD]; exact hD
  simp only [eJx4a65c_grow_d5877_0, eJx4a65c_grow_d5877_0N, eJx4a65c_grow_d5877_1, eJx4a65c_grow_d5877_1N, eJx4a65c_grow_d5877_2, eJx4a65c_grow_d5877_5, eJx4a65c_grow_d5877_6, eJx4a65c_grow_d5877_7, eJx4a65c_grow_d5877_10, eJx4a65c_grow_92f84_0, eJx4a65c_grow_92f84_0N, eJx4a65c_grow_92f84_1, eJx4a65c_grow_92f84_4, eJx4a65c_grow_92f84_5, eJx4a65c_grow_92f84_6, eJx4a65c_grow_92f84_7, eJx4a65c_grow_92f84_10, eJx4a65c_grow_92f84_10N, eJx4a65c_grow_92f84_11, eJx4a65c_grow_92f84_14, eJx4a65c_grow_92f84_17, eJx4a65c_grow_92f84_20, eJx4a65c_grow_92f84_21, eJx4a65c_grow_92f84_22, eJx4a65c_grow_92f84_23, eJx4a65c_grow_92f84_24, eJx4a65c_grow_92f84_25, eJx4a65c_grow_92f84_26, eJx4a65c_grow_92f84_27, eJx4a65c_grow_92f84_30, eJx4a65c_grow_92f84_31, eJx4a65c_grow_92f84_31N, eJx4a65c_grow_92f84_32, eJx4a65c_grow_92f84_32N, eJx4a65c_grow_92f84_33, eJx4a65c_grow_92f84_36, eJx4a65c_grow_92f84_37R, eJx4a65c_grow_92f84_37N, eJx4a65c_grow_92f84_40IR, eJx4a65c_grow_92f84_40RR, eJx4a65c_grow_92f84_41, eJx4a65c_grow_92f84_44, eJx4a65c_grow_92f84_45, eJx4a65c_grow_92f84_45N, eJx4a65c_grow_92f84_46, eJx4a65c_grow_92f84_48, eJx4a65c_grow_92f84_49, eJx4a65c_grow_92f84_52, eJx4a65c_grow_92f84_55IR, eJx4a65c_grow_92f84_55RR, eJx4a65c_grow_92f84_56, eJx4a65c_grow_92f84_59, eJ8_newLength_cabcc_0, eJ8_newLength_cabcc_1, eJ8_newLength_cabcc_2, eJ8_newLength_cabcc_3, eJ8_newLength_cabcc_6, eJ8_newLength_cabcc_7, eJ8_newLength_cabcc_8, eJ8_newLength_cabcc_9, eJ8_newLength_cabcc_10, eJ8_newLength_cabcc_13, eJ8_newLength_cabcc_14, eJ8_newLength_cabcc_16, eJ8_newLength_cabcc_19, eJ8_newLength_cabcc_20, eJ8_newLength_cabcc_21, eJ8_newLength_cabcc_22, eJ8_newLength_cabcc_26, eJ7_copyOf_1904c_0, eJ7_copyOf_1904c_0N, eJ7_copyOf_1904c_1, eJ7_copyOf_1904c_2, eJ7_copyOf_1904c_2N, eJ7_copyOf_1904c_3, eJ7_copyOf_1904c_6RR, eJ7_copyOf_1904c_6NR, eJ7_copyOf_1904c_6RN, eJ7_copyOf_1904c_6NN, eJ7_copyOf_1904c_9, eJ7_copyOf_6403c_0, eJ7_copyOf_6403c_0N, eJ7_copyOf_6403c_1, eJ7_copyOf_6403c_3, eJ7_copyOf_6403c_6, eJ7_copyOf_6403c_7, eJ7_copyOf_6403c_10, eJ7_copyOf_6403c_13, eJ7_copyOf_6403c_13N, eJ7_copyOf_6403c_17, eJ7_copyOf_6403c_24, eJ7_copyOf_6403c_24N, eJ7_copyOf_6403c_25, eJ7_copyOf_6403c_25N, eJ7_copyOf_6403c_26, eJ7_copyOf_6403c_27, eJ7_copyOf_6403c_27N, eJ7_copyOf_6403c_28, eJ7_copyOf_6403c_29, eJ7_copyOf_6403c_29N, eJ7_copyOf_6403c_30, eJ7_copyOf_6403c_31, eJ7_copyOf_6403c_32, eJ7_copyOf_6403c_35O, eJ7_copyOf_6403c_35B, eJ7_copyOf_6403c_38, eJ7_copyOf_6403c_38N, eJ7_copyOf_6403c_39, ite_le, n45, n54, true_or, or_true, false_or, or_false, false_and, and_false, kx_l, kx_r, go_s, gl_s, gi_s, gb_s2, gb_s3, gq_s, wt_nil, wt_int, wt_long, wt_ref, wt_null, nl_int, nl_long, nl_ref, nl_null, nl_none, rf_n, rf_s, rf_st, tl_s, tl_n, g0, gS, ex1, nb_b, nb_0, nb_1, nf_i, nf_l, nf_ra, nf_ro, nf_na, nf_no, nf_b0, nf_z0, t45_4, t45_5, true_and, and_true, List.set_cons_zero, List.set_cons_succ, List.length_cons, List.length_nil, rd_s, upw_s, ne_eq, not_false_eq_true, Nat.zero_add, Nat.add_zero, if_true, if_false, hL, rL, rD, hqL, hqD, upw_n, rd_n, exal2, al56, cap10, cap15, i15n, i10n, i0n, z1510, n100, n150, z00, tyJx4a65c, nf_ra, upw2q, eJ7_copyOf_6403c_35O hD2 (upw_s _ _ _)]
  repeat' first | with_reducible refine And.intro ?_ ?_ | omega
  · intro j y hj hy
    exact gl_Roww ((hh _ _ hy).ext (g := g) (ext_up2 ext.rf hq)) fun _ => trivial
  · repeat' first | exact trivial | exact hQ q hq | with_reducible refine And.intro ?_ ?_ | omega
end
end
/-! 61.list2.lean.txt -/
section
section
variable {g : RO} {Q : Ot → Hw → Prop} {w0 w : Hw}
/-- what an adding or a removing leaves -/
def LPo (g : RO) (w0 w' : Hw) (L D : Nat) (n' : Int32) (H : (Nat → Option Nat) → Prop) : Prop := ∃ (D' cap' : Nat) (h' : Nat → Option Nat), LL g w' L D' cap' n' h' ∧ (∀ i b, h' i = some b → isRow w' b) ∧ (∀ a o, w0 a = some o → a ≠ L → a ≠ D → w' a = some o) ∧ (∀ a o, g.2 a = some o → w0 a = none → w' a = none) ∧ (D' = D ∨ (w0 D' = none ∧ g.2 D' = none)) ∧ H h'
/-- a row with one more at its end; in its midst; with one less -/
def HAd (h : Nat → Option Nat) (n : Nat) (v : Option Nat) (h' : Nat → Option Nat) : Prop := (∀ j, j < n → h' j = h j) ∧ h' n = v
def HIn (h : Nat → Option Nat) (n i : Nat) (v : Option Nat) (h' : Nat → Option Nat) : Prop := (∀ j, j < i → h' j = h j) ∧ h' i = v ∧ ∀ j, i ≤ j → j < n → h' (j + 1) = h j
def HRm (h : Nat → Option Nat) (n i : Nat) (h' : Nat → Option Nat) : Prop := (∀ j, j < i → h' j = h j) ∧ ∀ j, i ≤ j → j + 1 < n → h' j = h (j + 1)
theorem va_up_s {h : Nat → Option Nat} {k : Nat} {v : Option Nat} : va_up h k v k = v := by
  unfold va_up
  split
  · rfl
  · next e => exact absurd rfl e
theorem va_up_o {h : Nat → Option Nat} {k j : Nat} {v : Option Nat} (e : j ≠ k) : va_up h k v j = h j := by
  unfold va_up
  split
  · omega
  · rfl
theorem cpy0 {h f : Nat → Option Nat} {z j : Nat} (hj : j < z) : va_cpy h f 0 0 z j = h j := by
  rw [pk_cpy_in (Nat.zero_le _) (by omega), Nat.sub_zero, Nat.zero_add]
theorem HAd.mk {h h2 : Nat → Option Nat} {n : Nat} {v : Option Nat} (k : ∀ j, j < n → h2 j = h j) : HAd h n v (va_up h2 n v) := ⟨fun j hj => by rw [va_up_o (by omega)]; exact k j hj, va_up_s⟩
theorem HIn.mk {h h2 : Nat → Option Nat} {n i i1 d : Nat} {v : Option Nat} (k : ∀ j, j < n → h2 j = h j) (hi : i ≤ n) (e1 : i1 = i + 1) (e2 : d = n - i) : HIn h n i v (va_up (va_cpy h2 h2 i i1 d) i v) := by
  refine ⟨fun j hj => ?_, va_up_s, fun j h1 h2 => ?_⟩
  · rw [va_up_o (by omega), pk_cpy_out (Or.inl (by omega))]
    exact k j (by omega)
  · rw [va_up_o (by omega), pk_cpy_in (by omega) (by omega), ← k j h2]
    congr 1
    omega
theorem HRm.mk1 {h : Nat → Option Nat} {n i i1 d m : Nat} (e1 : m + 1 = n) (hi : i < m) (e2 : i1 = i + 1) (e3 : d = m - i) : HRm h n i (va_up (va_cpy h h i1 i d) m none) := by
  refine ⟨fun j hj => ?_, fun j h1 h2 => ?_⟩
  · rw [va_up_o (by omega), pk_cpy_out (Or.inl (by omega))]
  · rw [va_up_o (by omega), pk_cpy_in (by omega) (by omega)]
    congr 1
    omega
theorem HRm.mk2 {h : Nat → Option Nat} {n i m : Nat} (e1 : m + 1 = n) (hi : m ≤ i) (hn : i < n) : HRm h n i (va_up h m none) := by
  refine ⟨fun j hj => ?_, fun j h1 h2 => ?_⟩
  · rw [va_up_o (by omega)]
  · omega
theorem LPom {w' : Hw} {L D D' cap' : Nat} {fs : List Value} {mc' n' : Int32} {h' : Nat → Option Nat} (h0 : w0 L = some (.inr (3, fs))) (hL' : w' L = some (.inr (3, [.int mc', .ref D', .int n']))) (hD' : w' D' = some (.inl (5, cap', qc h'))) (hc : cap' = 10 ∨ cap' = 15) (b0 : 0 ≤ n'.toInt) (b1 : n'.toInt ≤ (cap' : Int)) (hf : ∀ a, a ≠ L → a ≠ D' → w' a = w0 a) (hfr : (D' = D ∧ ∃ c z, w0 D = some (.inl (5, c, z))) ∨ (w0 D' = none ∧ g.2 D' = none)) (hr : ∀ i b, h' i = some b → isRow w0 b) {H : (Nat → Option Nat) → Prop} (hH : H h') : LPo g w0 w' L D n' H := by
  refine ⟨D', cap', h', ⟨⟨mc', hL'⟩, Or.inl ⟨hD', hc⟩, b0, b1⟩, ?_, ?_, ?_, ?_, hH⟩
  · intro i b hb
    obtain ⟨f, hrow⟩ := hr i b hb
    refine ⟨f, ?_⟩
    rw [hf]
    · exact hrow
    · rintro rfl
      rw [h0] at hrow
      cases hrow
    · rintro rfl
      rcases hfr with ⟨rfl, c, z, e⟩ | ⟨e, -⟩
      · rw [e] at hrow
        cases hrow
      · rw [e] at hrow
        cases hrow
  · intro a o ha n1 n2
    rw [hf a n1]
    · exact ha
    · rintro rfl
      rcases hfr with ⟨rfl, -⟩ | ⟨e, -⟩
      · exact n2 rfl
      · rw [e] at ha
        cases ha
  · intro a o ha hn
    rw [hf]
    · exact hn
    · rintro rfl
      rw [h0] at hn
      cases hn
    · rintro rfl
      rcases hfr with ⟨rfl, c, z, e⟩ | ⟨-, e⟩
      · rw [e] at hn
        cases hn
      · rw [e] at ha
        cases ha
  · rcases hfr with ⟨e, -⟩ | e
    · exact Or.inl e
    · exact Or.inr e
theorem va_up_row {h : Nat → Option Nat} {k : Nat} {v : Option Nat} (hr : ∀ i b, h i = some b → isRow w b) (hv : ∀ b, v = some b → isRow w b) : ∀ i b, va_up h k v i = some b → isRow w b := fun i b => by
  unfold va_up
  split
  · exact hv b
  · exact hr i b
theorem cpy_row {h h2 : Nat → Option Nat} {x y z : Nat} (hr : ∀ i b, h i = some b → isRow w b) (hv : ∀ i b, h2 i = some b → isRow w b) : ∀ i b, va_cpy h h2 x y z i = some b → isRow w b := fun i b => by
  unfold va_cpy
  split
  · exact hr _ b
  · exact hv i b
theorem i32p1 {c : Int32} (h0 : 0 ≤ c.toInt) (h : c.toInt ≤ 2000) : (c + 1).toInt = c.toInt + 1 := i32_add (by show -2147483648 ≤ c.toInt + 1; omega) (by show c.toInt + 1 ≤ 2147483647; omega)
theorem ofNc {N : Nat} (h : N ≤ 5000) : (Int32.ofNat N).toInt = (N : Int) := Int32.toInt_ofNat_of_lt (by omega)
set_option maxHeartbeats 4000000 in
theorem lJx4a65c_add_72be8_11R {L D D' cap b k m : Nat} {mc n : Int32} {fs0 : List Value} {h : Nat → Option Nat} {w1 : Hw} (hb : isRow w0 b) (h0 : w0 L = some (.inr (3, fs0))) (hL : w1 L = some (.inr (3, [.int mc, .ref D', .int n]))) (hD : w1 D' = some (.inl (5, cap, qc h))) (hc : cap = 10 ∨ cap = 15) (hf1 : ∀ a, a ≠ L → a ≠ D' → w1 a = w0 a) (hfr : (D' = D ∧ ∃ c z, w0 D = some (.inl (5, c, z))) ∨ (w0 D' = none ∧ g.2 D' = none)) (hr : ∀ i b, h i = some b → isRow w0 b) (hn0 : 0 ≤ n.toInt) (hn1 : n.toInt < (cap : Int)) (hk : k ≤ 1) (hm : m ≤ 15) {H : (Nat → Option Nat) → Prop} (hH : H (va_up h n.toNatClampNeg (some b))) (hQ : ∀ w', LPo g w0 w' L D (n + 1) H → Q (.inl none) w') : WP (MJx4a65c_add_72be8 g) Q (11, [some (.ref L), some (.ref b), some (.ref D'), some (.int n)], [], w1, k, m) := by
  have iv : vp_in n cap := vpiM hn0 hn1
  have hLD : L ≠ D' := fun e => by
    rw [e, hD] at hL
    cases hL
  have e1 := i32p1 hn0 (by omega)
  have hbD : ∀ f0, w0 b = some (.inl (0, 4, .inr (.inl f0))) → b ≠ D' := fun f0 hrow e => by
    subst e
    rcases hfr with ⟨rfl, c, z, e⟩ | ⟨e, -⟩
    · rw [e] at hrow
      cases hrow
    · rw [e] at hrow
      cases hrow
  have hbw : isRow w1 b := by
    obtain ⟨f0, hrow⟩ := hb
    refine ⟨f0, ?_⟩
    rw [hf1]
    · exact hrow
    · rintro rfl
      rw [h0] at hrow
      cases hrow
    · exact hbD f0 hrow
  simp only [eJx4a65c_add_72be8_11, eJx4a65c_add_72be8_11N, eJx4a65c_add_72be8_12, eJx4a65c_add_72be8_13, eJx4a65c_add_72be8_13N, eJx4a65c_add_72be8_14N, eJx4a65c_add_72be8_14R, eJx4a65c_add_72be8_15, eJx4a65c_add_72be8_15N, eJx4a65c_add_72be8_16, eJx4a65c_add_72be8_17, eJx4a65c_add_72be8_18, eJx4a65c_add_72be8_19, eJx4a65c_add_72be8_22, ite_le, n45, n54, true_or, or_true, false_or, or_false, false_and, and_false, kx_l, kx_r, go_s, gl_s, gi_s, gb_s2, gb_s3, gq_s, wt_nil, wt_int, wt_long, wt_ref, wt_null, nl_int, nl_long, nl_ref, nl_null, nl_none, rf_n, rf_s, rf_st, tl_s, tl_n, g0, gS, ex1, nb_b, nb_0, nb_1, nf_i, nf_l, nf_ra, nf_ro, nf_na, nf_no, nf_b0, nf_z0, t45_4, t45_5, true_and, and_true, List.set_cons_zero, List.set_cons_succ, List.length_cons, List.length_nil, rd_s, upw_s, ne_eq, not_false_eq_true, Nat.zero_add, Nat.add_zero, if_true, if_false, eq_self, hL, hD, hLD, hLD.symm, upw_n, al56]
  repeat' first
    | with_reducible assumption
    | with_reducible refine And.intro ?_ ?_
    | with_reducible refine Or.inr ?_
    | with_reducible exact gl_Roww hbw (fun _ => trivial)
    | with_reducible exact trivial
    | omega
  refine hQ _ (LPom (D' := D') (cap' := cap) (mc' := mc) h0 (upw_s _ _ _) (by rw [upw_n hLD.symm]; exact upw_s _ _ _) hc (by omega) (by omega) (fun a n1 n2 => by rw [upw_n n1, upw_n n2]; exact hf1 a n1 n2) hfr (va_up_row hr (fun b0 e => by
    cases e
    exact hb)) hH)
set_option maxHeartbeats 4000000 in
theorem sJx4a65c_add_72be8R {L D cap b : Nat} {n : Int32} {fs0 : List Value} {h : Nat → Option Nat} (hb : isRow w0 b) (hE : EG g w) (hS : SG g) (hl : LL g w L D cap n h) (hr : ∀ i b, h i = some b → isRow w0 b) (hrw : ∀ i b, h i = some b → isRow w b) (h0 : w0 L = some (.inr (3, fs0))) (hf0 : ∀ a, a ≠ L → w a = w0 a) (hn : n.toInt < 15) (hQ : ∀ w', LPo g w0 w' L D (n + 1) (HAd h n.toNatClampNeg (some b)) → Q (.inl none) w') : WP (MJx4a65c_add_72be8 g) Q (0, [some (.ref L), some (.ref b), some (.ref D), some (.int n)], [], w, 0, 0) := by
  obtain ⟨mc, hL, rL, rD, hn0, hn1, n1, n2⟩ := hl.opn
  have eN := ofNc (N := cap) (by
    rcases hl.2.1 with ⟨-, e | e⟩ | ⟨e, -⟩ <;> omega)
  simp only [eJx4a65c_add_72be8_0, eJx4a65c_add_72be8_1, eJx4a65c_add_72be8_1N, eJx4a65c_add_72be8_2, eJx4a65c_add_72be8_3, ite_le, n45, n54, true_or, or_true, false_or, or_false, false_and, and_false, kx_l, kx_r, go_s, gl_s, gi_s, gb_s2, gb_s3, gq_s, wt_nil, wt_int, wt_long, wt_ref, wt_null, nl_int, nl_long, nl_ref, nl_null, nl_none, rf_n, rf_s, rf_st, tl_s, tl_n, g0, gS, ex1, nb_b, nb_0, nb_1, nf_i, nf_l, nf_ra, nf_ro, nf_na, nf_no, nf_b0, nf_z0, t45_4, t45_5, true_and, and_true, List.set_cons_zero, List.set_cons_succ, List.length_cons, List.length_nil, rd_s, upw_s, ne_eq, not_false_eq_true, Nat.zero_add, Nat.add_zero, if_true, if_false, eq_self, rL, rD, exal2, al56]
  split
  · next he =>
    have he : n.toInt = (cap : Int) := by rw [he, eN]
    simp only [eJx4a65c_add_72be8_6, eJx4a65c_add_72be8_6N, eJx4a65c_add_72be8_7, ite_le, n45, n54, true_or, or_true, false_or, or_false, false_and, and_false, kx_l, kx_r, go_s, gl_s, gi_s, gb_s2, gb_s3, gq_s, wt_nil, wt_int, wt_long, wt_ref, wt_null, nl_int, nl_long, nl_ref, nl_null, nl_none, rf_n, rf_s, rf_st, tl_s, tl_n, g0, gS, ex1, nb_b, nb_0, nb_1, nf_i, nf_l, nf_ra, nf_ro, nf_na, nf_no, nf_b0, nf_z0, t45_4, t45_5, true_and, and_true, List.set_cons_zero, List.set_cons_succ, List.length_cons, List.length_nil, rd_s, upw_s, ne_eq, not_false_eq_true, Nat.zero_add, Nat.add_zero, if_true, if_false, eq_self, rL]
    repeat' first | with_reducible refine And.intro ?_ ?_ | omega
    obtain ⟨-, h2, -, -⟩ := hl
    rcases h2 with ⟨h2, rfl | rfl⟩ | ⟨rfl, d1, d2, d3⟩
    · have n10 : n = 10 := Int32.toInt_inj.mp (by rw [he]; rfl)
      refine sJx4a65c_grow10 hE hS hL h2 hrw n10 (fun q hq => ?_)
      have hqn := rd_none hq
      have hqL : q ≠ L := fun e => by
        rw [e, hL] at hqn
        cases hqn
      simp only [eJx4a65c_add_72be8_10, eJx4a65c_add_72be8_10N, ite_le, n45, n54, true_or, or_true, false_or, or_false, false_and, and_false, kx_l, kx_r, go_s, gl_s, gi_s, gb_s2, gb_s3, gq_s, wt_nil, wt_int, wt_long, wt_ref, wt_null, nl_int, nl_long, nl_ref, nl_null, nl_none, rf_n, rf_s, rf_st, tl_s, tl_n, g0, gS, ex1, nb_b, nb_0, nb_1, nf_i, nf_l, nf_ra, nf_ro, nf_na, nf_no, nf_b0, nf_z0, t45_4, t45_5, true_and, and_true, List.set_cons_zero, List.set_cons_succ, List.length_cons, List.length_nil, rd_s, upw_s, ne_eq, not_false_eq_true, Nat.zero_add, Nat.add_zero, if_true, if_false, eq_self]
      exact lJx4a65c_add_72be8_11R (D' := q) (cap := 15) hb h0 (upw_s _ _ _) (by rw [upw_n hqL]; exact upw_s _ _ _) (Or.inr rfl) (fun a a1 a2 => by rw [upw_n a1, upw_n a2]; exact hf0 a a1) (Or.inr ⟨by rw [← hf0 q hqL]; exact hqn, rd_ro hq⟩) (cpy_row hr (fun _ _ e => by cases e)) hn0 (by omega) (by decide) (by decide) (HAd.mk (fun j hj => cpy0 (by have t : n.toNatClampNeg = n.toInt.toNat := rfl; omega))) hQ
    · omega
    · have n00 : n = 0 := Int32.toInt_inj.mp (by rw [he]; rfl)
      refine sJx4a65c_grow0 hE hS hL ⟨d1, d2, d3⟩ n00 (fun q hq => ?_)
      have hqn := rd_none hq
      have hqL : q ≠ L := fun e => by
        rw [e, hL] at hqn
        cases hqn
      simp only [eJx4a65c_add_72be8_10, eJx4a65c_add_72be8_10N, ite_le, n45, n54, true_or, or_true, false_or, or_false, false_and, and_false, kx_l, kx_r, go_s, gl_s, gi_s, gb_s2, gb_s3, gq_s, wt_nil, wt_int, wt_long, wt_ref, wt_null, nl_int, nl_long, nl_ref, nl_null, nl_none, rf_n, rf_s, rf_st, tl_s, tl_n, g0, gS, ex1, nb_b, nb_0, nb_1, nf_i, nf_l, nf_ra, nf_ro, nf_na, nf_no, nf_b0, nf_z0, t45_4, t45_5, true_and, and_true, List.set_cons_zero, List.set_cons_succ, List.length_cons, List.length_nil, rd_s, upw_s, ne_eq, not_false_eq_true, Nat.zero_add, Nat.add_zero, if_true, if_false, eq_self]
      exact lJx4a65c_add_72be8_11R (D' := q) (cap := 10) hb h0 (upw_s _ _ _) (by rw [upw_n hqL]; exact upw_s _ _ _) (Or.inl rfl) (fun a a1 a2 => by rw [upw_n a1, upw_n a2]; exact hf0 a a1) (Or.inr ⟨by rw [← hf0 q hqL]; exact hqn, rd_ro hq⟩) (fun _ _ e => by cases e) hn0 (by omega) (by decide) (by decide) (HAd.mk (fun j hj => by have t : n.toNatClampNeg = n.toInt.toNat := rfl; exfalso; omega)) hQ
  · next he =>
    have he : n.toInt ≠ (cap : Int) := fun e => he (Int32.toInt_inj.mp (by rw [e, eN]))
    obtain ⟨-, h2, -, -⟩ := hl
    rcases h2 with ⟨h2, h3⟩ | ⟨rfl, -⟩
    · exact lJx4a65c_add_72be8_11R (D' := D) hb h0 hL h2 h3 (fun a a1 _ => hf0 a a1) (Or.inl ⟨rfl, cap, _, by rw [← hf0 D n2]; exact h2⟩) hr hn0 (by omega) (by decide) (by decide) (HAd.mk (fun _ _ => rfl)) hQ
    · omega
set_option maxHeartbeats 4000000 in
theorem sJx4a65c_add_9ea2dR {L D cap b : Nat} {n : Int32} {h : Nat → Option Nat} (hb : isRow w b) (hE : EG g w) (hS : SG g) (hl : LL g w L D cap n h) (hr : ∀ i b, h i = some b → isRow w b) (hn : n.toInt < 15) (hQ : ∀ w', LPo g w w' L D (n + 1) (HAd h n.toNatClampNeg (some b)) → Q (.inl (some (.int 1))) w') : WP (MJx4a65c_add_9ea2d g) Q (0, [some (.ref L), some (.ref b)], [], w, 0, 0) := by
  obtain ⟨mc, hL, rL, rD, hn0, hn1, n1, n2⟩ := hl.opn
  have hE1 : EG g (upw w L (.inr (3, [.int (mc + 1), .ref D, .int n]))) := by
    obtain ⟨⟨e, e1, e2, e3⟩, m⟩ := hE
    refine ⟨⟨e, e1, e2, ?_⟩, m⟩
    rw [upw_n]
    · exact e3
    · rintro rfl
      rw [hL] at e3
      cases e3
  have hl1 : LL g (upw w L (.inr (3, [.int (mc + 1), .ref D, .int n]))) L D cap n h := by
    obtain ⟨-, h2, h3, h4⟩ := hl
    refine ⟨⟨mc + 1, upw_s _ _ _⟩, ?_, h3, h4⟩
    rw [upw_n n2]
    exact h2
  simp only [eJx4a65c_add_9ea2d_0, eJx4a65c_add_9ea2d_0N, eJx4a65c_add_9ea2d_1, eJx4a65c_add_9ea2d_1R, eJx4a65c_add_9ea2d_2, eJx4a65c_add_9ea2d_5, eJx4a65c_add_9ea2d_6, eJx4a65c_add_9ea2d_7, eJx4a65c_add_9ea2d_10, eJx4a65c_add_9ea2d_10N, eJx4a65c_add_9ea2d_11, eJx4a65c_add_9ea2d_11N, eJx4a65c_add_9ea2d_12, eJx4a65c_add_9ea2d_12N, eJx4a65c_add_9ea2d_13, eJx4a65c_add_9ea2d_16, eJx4a65c_add_9ea2d_16N, eJx4a65c_add_9ea2d_17, eJx4a65c_add_9ea2d_20RR, eJx4a65c_add_9ea2d_20NR, eJx4a65c_add_9ea2d_20RN, eJx4a65c_add_9ea2d_20NN, ite_le, n45, n54, true_or, or_true, false_or, or_false, false_and, and_false, kx_l, kx_r, go_s, gl_s, gi_s, gb_s2, gb_s3, gq_s, wt_nil, wt_int, wt_long, wt_ref, wt_null, nl_int, nl_long, nl_ref, nl_null, nl_none, rf_n, rf_s, rf_st, tl_s, tl_n, g0, gS, ex1, nb_b, nb_0, nb_1, nf_i, nf_l, nf_ra, nf_ro, nf_na, nf_no, nf_b0, nf_z0, t45_4, t45_5, true_and, and_true, List.set_cons_zero, List.set_cons_succ, List.length_cons, List.length_nil, rd_s, upw_s, ne_eq, not_false_eq_true, Nat.zero_add, Nat.add_zero, if_true, if_false, eq_self, rL, hL]
  repeat' first | with_reducible refine And.intro ?_ ?_ | omega
  refine sJx4a65c_add_72be8R (w0 := w) hb hE1 hS hl1 hr (fun i b hb => isRow_up (hr i b hb) hL (fun z e => by cases e)) hL (fun a ha => upw_n ha) hn (fun w' z => ?_)
  simp only [eJx4a65c_add_9ea2d_23, eJx4a65c_add_9ea2d_24, ite_le, n45, n54, true_or, or_true, false_or, or_false, false_and, and_false, kx_l, kx_r, go_s, gl_s, gi_s, gb_s2, gb_s3, gq_s, wt_nil, wt_int, wt_long, wt_ref, wt_null, nl_int, nl_long, nl_ref, nl_null, nl_none, rf_n, rf_s, rf_st, tl_s, tl_n, g0, gS, ex1, nb_b, nb_0, nb_1, nf_i, nf_l, nf_ra, nf_ro, nf_na, nf_no, nf_b0, nf_z0, t45_4, t45_5, true_and, and_true, List.set_cons_zero, List.set_cons_succ, List.length_cons, List.length_nil, rd_s, upw_s, ne_eq, not_false_eq_true, Nat.zero_add, Nat.add_zero, if_true, if_false, eq_self]
  repeat' first | with_reducible refine And.intro ?_ ?_ | omega
  all_goals exact hQ _ z
set_option maxHeartbeats 4000000 in
theorem lJx4a65c_add_72be8_11N {L D D' cap k m : Nat} {mc n : Int32} {fs0 : List Value} {h : Nat → Option Nat} {w1 : Hw} (h0 : w0 L = some (.inr (3, fs0))) (hL : w1 L = some (.inr (3, [.int mc, .ref D', .int n]))) (hD : w1 D' = some (.inl (5, cap, qc h))) (hc : cap = 10 ∨ cap = 15) (hf1 : ∀ a, a ≠ L → a ≠ D' → w1 a = w0 a) (hfr : (D' = D ∧ ∃ c z, w0 D = some (.inl (5, c, z))) ∨ (w0 D' = none ∧ g.2 D' = none)) (hr : ∀ i b, h i = some b → isRow w0 b) (hn0 : 0 ≤ n.toInt) (hn1 : n.toInt < (cap : Int)) (hk : k ≤ 1) (hm : m ≤ 15) {H : (Nat → Option Nat) → Prop} (hH : H (va_up h n.toNatClampNeg none)) (hQ : ∀ w', LPo g w0 w' L D (n + 1) H → Q (.inl none) w') : WP (MJx4a65c_add_72be8 g) Q (11, [some (.ref L), some .null, some (.ref D'), some (.int n)], [], w1, k, m) := by
  have iv : vp_in n cap := vpiM hn0 hn1
  have hLD : L ≠ D' := fun e => by
    rw [e, hD] at hL
    cases hL
  have e1 := i32p1 hn0 (by omega)
  simp only [eJx4a65c_add_72be8_11, eJx4a65c_add_72be8_11N, eJx4a65c_add_72be8_12, eJx4a65c_add_72be8_13, eJx4a65c_add_72be8_13N, eJx4a65c_add_72be8_14N, eJx4a65c_add_72be8_14R, eJx4a65c_add_72be8_15, eJx4a65c_add_72be8_15N, eJx4a65c_add_72be8_16, eJx4a65c_add_72be8_17, eJx4a65c_add_72be8_18, eJx4a65c_add_72be8_19, eJx4a65c_add_72be8_22, ite_le, n45, n54, true_or, or_true, false_or, or_false, false_and, and_false, kx_l, kx_r, go_s, gl_s, gi_s, gb_s2, gb_s3, gq_s, wt_nil, wt_int, wt_long, wt_ref, wt_null, nl_int, nl_long, nl_ref, nl_null, nl_none, rf_n, rf_s, rf_st, tl_s, tl_n, g0, gS, ex1, nb_b, nb_0, nb_1, nf_i, nf_l, nf_ra, nf_ro, nf_na, nf_no, nf_b0, nf_z0, t45_4, t45_5, true_and, and_true, List.set_cons_zero, List.set_cons_succ, List.length_cons, List.length_nil, rd_s, upw_s, ne_eq, not_false_eq_true, Nat.zero_add, Nat.add_zero, if_true, if_false, eq_self, hL, hD, hLD, hLD.symm, upw_n, al56]
  repeat' first
    | with_reducible assumption
    | with_reducible refine And.intro ?_ ?_
    | with_reducible exact trivial
    | omega
  refine hQ _ (LPom (D' := D') (cap' := cap) (mc' := mc) h0 (upw_s _ _ _) (by rw [upw_n hLD.symm]; exact upw_s _ _ _) hc (by omega) (by omega) (fun a n1 n2 => by rw [upw_n n1, upw_n n2]; exact hf1 a n1 n2) hfr (va_up_row hr (fun b0 e => by cases e)) hH)
set_option maxHeartbeats 4000000 in
theorem sJx4a65c_add_72be8N {L D cap : Nat} {n : Int32} {fs0 : List Value} {h : Nat → Option Nat} (hE : EG g w) (hS : SG g) (hl : LL g w L D cap n h) (hr : ∀ i b, h i = some b → isRow w0 b) (hrw : ∀ i b, h i = some b → isRow w b) (h0 : w0 L = some (.inr (3, fs0))) (hf0 : ∀ a, a ≠ L → w a = w0 a) (hn : n.toInt < 15) (hQ : ∀ w', LPo g w0 w' L D (n + 1) (HAd h n.toNatClampNeg none) → Q (.inl none) w') : WP (MJx4a65c_add_72be8 g) Q (0, [some (.ref L), some .null, some (.ref D), some (.int n)], [], w, 0, 0) := by
  obtain ⟨mc, hL, rL, rD, hn0, hn1, n1, n2⟩ := hl.opn
  have eN := ofNc (N := cap) (by
    rcases hl.2.1 with ⟨-, e | e⟩ | ⟨e, -⟩ <;> omega)
  simp only [eJx4a65c_add_72be8_0, eJx4a65c_add_72be8_1, eJx4a65c_add_72be8_1N, eJx4a65c_add_72be8_2, eJx4a65c_add_72be8_3, ite_le, n45, n54, true_or, or_true, false_or, or_false, false_and, and_false, kx_l, kx_r, go_s, gl_s, gi_s, gb_s2, gb_s3, gq_s, wt_nil, wt_int, wt_long, wt_ref, wt_null, nl_int, nl_long, nl_ref, nl_null, nl_none, rf_n, rf_s, rf_st, tl_s, tl_n, g0, gS, ex1, nb_b, nb_0, nb_1, nf_i, nf_l, nf_ra, nf_ro, nf_na, nf_no, nf_b0, nf_z0, t45_4, t45_5, true_and, and_true, List.set_cons_zero, List.set_cons_succ, List.length_cons, List.length_nil, rd_s, upw_s, ne_eq, not_false_eq_true, Nat.zero_add, Nat.add_zero, if_true, if_false, eq_self, rL, rD, exal2, al56]
  split
  · next he =>
    have he : n.toInt = (cap : Int) := by rw [he, eN]
    simp only [eJx4a65c_add_72be8_6, eJx4a65c_add_72be8_6N, eJx4a65c_add_72be8_7, ite_le, n45, n54, true_or, or_true, false_or, or_false, false_and, and_false, kx_l, kx_r, go_s, gl_s, gi_s, gb_s2, gb_s3, gq_s, wt_nil, wt_int, wt_long, wt_ref, wt_null, nl_int, nl_long, nl_ref, nl_null, nl_none, rf_n, rf_s, rf_st, tl_s, tl_n, g0, gS, ex1, nb_b, nb_0, nb_1, nf_i, nf_l, nf_ra, nf_ro, nf_na, nf_no, nf_b0, nf_z0, t45_4, t45_5, true_and, and_true, List.set_cons_zero, List.set_cons_succ, List.length_cons, List.length_nil, rd_s, upw_s, ne_eq, not_false_eq_true, Nat.zero_add, Nat.add_zero, if_true, if_false, eq_self, rL]
    repeat' first | with_reducible refine And.intro ?_ ?_ | omega
    obtain ⟨-, h2, -, -⟩ := hl
    rcases h2 with ⟨h2, rfl | rfl⟩ | ⟨rfl, d1, d2, d3⟩
    · have n10 : n = 10 := Int32.toInt_inj.mp (by rw [he]; rfl)
      refine sJx4a65c_grow10 hE hS hL h2 hrw n10 (fun q hq => ?_)
      have hqn := rd_none hq
      have hqL : q ≠ L := fun e => by
        rw [e, hL] at hqn
        cases hqn
      simp only [eJx4a65c_add_72be8_10, eJx4a65c_add_72be8_10N, ite_le, n45, n54, true_or, or_true, false_or, or_false, false_and, and_false, kx_l, kx_r, go_s, gl_s, gi_s, gb_s2, gb_s3, gq_s, wt_nil, wt_int, wt_long, wt_ref, wt_null, nl_int, nl_long, nl_ref, nl_null, nl_none, rf_n, rf_s, rf_st, tl_s, tl_n, g0, gS, ex1, nb_b, nb_0, nb_1, nf_i, nf_l, nf_ra, nf_ro, nf_na, nf_no, nf_b0, nf_z0, t45_4, t45_5, true_and, and_true, List.set_cons_zero, List.set_cons_succ, List.length_cons, List.length_nil, rd_s, upw_s, ne_eq, not_false_eq_true, Nat.zero_add, Nat.add_zero, if_true, if_false, eq_self]
      exact lJx4a65c_add_72be8_11N (D' := q) (cap := 15) h0 (upw_s _ _ _) (by rw [upw_n hqL]; exact upw_s _ _ _) (Or.inr rfl) (fun a a1 a2 => by rw [upw_n a1, upw_n a2]; exact hf0 a a1) (Or.inr ⟨by rw [← hf0 q hqL]; exact hqn, rd_ro hq⟩) (cpy_row hr (fun _ _ e => by cases e)) hn0 (by omega) (by decide) (by decide) (HAd.mk (fun j hj => cpy0 (by have t : n.toNatClampNeg = n.toInt.toNat := rfl; omega))) hQ
    · omega
    · have n00 : n = 0 := Int32.toInt_inj.mp (by rw [he]; rfl)
      refine sJx4a65c_grow0 hE hS hL ⟨d1, d2, d3⟩ n00 (fun q hq => ?_)
      have hqn := rd_none hq
      have hqL : q ≠ L := fun e => by
        rw [e, hL] at hqn
        cases hqn
      simp only [eJx4a65c_add_72be8_10, eJx4a65c_add_72be8_10N, ite_le, n45, n54, true_or, or_true, false_or, or_false, false_and, and_false, kx_l, kx_r, go_s, gl_s, gi_s, gb_s2, gb_s3, gq_s, wt_nil, wt_int, wt_long, wt_ref, wt_null, nl_int, nl_long, nl_ref, nl_null, nl_none, rf_n, rf_s, rf_st, tl_s, tl_n, g0, gS, ex1, nb_b, nb_0, nb_1, nf_i, nf_l, nf_ra, nf_ro, nf_na, nf_no, nf_b0, nf_z0, t45_4, t45_5, true_and, and_true, List.set_cons_zero, List.set_cons_succ, List.length_cons, List.length_nil, rd_s, upw_s, ne_eq, not_false_eq_true, Nat.zero_add, Nat.add_zero, if_true, if_false, eq_self]
      exact lJx4a65c_add_72be8_11N (D' := q) (cap := 10) h0 (upw_s _ _ _) (by rw [upw_n hqL]; exact upw_s _ _ _) (Or.inl rfl) (fun a a1 a2 => by rw [upw_n a1, upw_n a2]; exact hf0 a a1) (Or.inr ⟨by rw [← hf0 q hqL]; exact hqn, rd_ro hq⟩) (fun _ _ e => by cases e) hn0 (by omega) (by decide) (by decide) (HAd.mk (fun j hj => by have t : n.toNatClampNeg = n.toInt.toNat := rfl; exfalso; omega)) hQ
  · next he =>
    have he : n.toInt ≠ (cap : Int) := fun e => he (Int32.toInt_inj.mp (by rw [e, eN]))
    obtain ⟨-, h2, -, -⟩ := hl
    rcases h2 with ⟨h2, h3⟩ | ⟨rfl, -⟩
    · exact lJx4a65c_add_72be8_11N (D' := D) h0 hL h2 h3 (fun a a1 _ => hf0 a a1) (Or.inl ⟨rfl, cap, _, by rw [← hf0 D n2]; exact h2⟩) hr hn0 (by omega) (by decide) (by decide) (HAd.mk (fun _ _ => rfl)) hQ
    · omega
set_option maxHeartbeats 4000000 in
theorem sJx4a65c_add_9ea2dN {L D cap : Nat} {n : Int32} {h : Nat → Option Nat} (hE : EG g w) (hS : SG g) (hl : LL g w L D cap n h) (hr : ∀ i b, h i = some b → isRow w b) (hn : n.toInt < 15) (hQ : ∀ w', LPo g w w' L D (n + 1) (HAd h n.toNatClampNeg none) → Q (.inl (some (.int 1))) w') : WP (MJx4a65c_add_9ea2d g) Q (0, [some (.ref L), some .null], [], w, 0, 0) := by
  obtain ⟨mc, hL, rL, rD, hn0, hn1, n1, n2⟩ := hl.opn
  have hE1 : EG g (upw w L (.inr (3, [.int (mc + 1), .ref D, .int n]))) := by
    obtain ⟨⟨e, e1, e2, e3⟩, m⟩ := hE
    refine ⟨⟨e, e1, e2, ?_⟩, m⟩
    rw [upw_n]
    · exact e3
    · rintro rfl
      rw [hL] at e3
      cases e3
  have hl1 : LL g (upw w L (.inr (3, [.int (mc + 1), .ref D, .int n]))) L D cap n h := by
    obtain ⟨-, h2, h3, h4⟩ := hl
    refine ⟨⟨mc + 1, upw_s _ _ _⟩, ?_, h3, h4⟩
    rw [upw_n n2]
    exact h2
  simp only [eJx4a65c_add_9ea2d_0, eJx4a65c_add_9ea2d_0N, eJx4a65c_add_9ea2d_1, eJx4a65c_add_9ea2d_1R, eJx4a65c_add_9ea2d_2, eJx4a65c_add_9ea2d_5, eJx4a65c_add_9ea2d_6, eJx4a65c_add_9ea2d_7, eJx4a65c_add_9ea2d_10, eJx4a65c_add_9ea2d_10N, eJx4a65c_add_9ea2d_11, eJx4a65c_add_9ea2d_11N, eJx4a65c_add_9ea2d_12, eJx4a65c_add_9ea2d_12N, eJx4a65c_add_9ea2d_13, eJx4a65c_add_9ea2d_16, eJx4a65c_add_9ea2d_16N, eJx4a65c_add_9ea2d_17, eJx4a65c_add_9ea2d_20RR, eJx4a65c_add_9ea2d_20NR, eJx4a65c_add_9ea2d_20RN, eJx4a65c_add_9ea2d_20NN, ite_le, n45, n54, true_or, or_true, false_or, or_false, false_and, and_false, kx_l, kx_r, go_s, gl_s, gi_s, gb_s2, gb_s3, gq_s, wt_nil, wt_int, wt_long, wt_ref, wt_null, nl_int, nl_long, nl_ref, nl_null, nl_none, rf_n, rf_s, rf_st, tl_s, tl_n, g0, gS, ex1, nb_b, nb_0, nb_1, nf_i, nf_l, nf_ra, nf_ro, nf_na, nf_no, nf_b0, nf_z0, t45_4, t45_5, true_and, and_true, List.set_cons_zero, List.set_cons_succ, List.length_cons, List.length_nil, rd_s, upw_s, ne_eq, not_false_eq_true, Nat.zero_add, Nat.add_zero, if_true, if_false, eq_self, rL, hL]
  repeat' first | with_reducible refine And.intro ?_ ?_ | omega
  refine sJx4a65c_add_72be8N (w0 := w) hE1 hS hl1 hr (fun i b hb => isRow_up (hr i b hb) hL (fun z e => by cases e)) hL (fun a ha => upw_n ha) hn (fun w' z => ?_)
  simp only [eJx4a65c_add_9ea2d_23, eJx4a65c_add_9ea2d_24, ite_le, n45, n54, true_or, or_true, false_or, or_false, false_and, and_false, kx_l, kx_r, go_s, gl_s, gi_s, gb_s2, gb_s3, gq_s, wt_nil, wt_int, wt_long, wt_ref, wt_null, nl_int, nl_long, nl_ref, nl_null, nl_none, rf_n, rf_s, rf_st, tl_s, tl_n, g0, gS, ex1, nb_b, nb_0, nb_1, nf_i, nf_l, nf_ra, nf_ro, nf_na, nf_no, nf_b0, nf_z0, t45_4, t45_5, true_and, and_true, List.set_cons_zero, List.set_cons_succ, List.length_cons, List.length_nil, rd_s, upw_s, ne_eq, not_false_eq_true, Nat.zero_add, Nat.add_zero, if_true, if_false, eq_self]
  repeat' first | with_reducible refine And.intro ?_ ?_ | omega
  all_goals exact hQ _ z
end
end
/-! 61.list3.lean.txt -/
section
section
variable {g : RO} {Q : Ot → Hw → Prop} {w0 w : Hw}
set_option maxHeartbeats 4000000 in
theorem lJx4a65c_add_7a177_38R {L D D' cap b k m : Nat} {mc n i : Int32} {fs0 : List Value} {h : Nat → Option Nat} {w1 : Hw} (hb : isRow w0 b) (hbw : isRow w1 b) (h0 : w0 L = some (.inr (3, fs0))) (hL : w1 L = some (.inr (3, [.int mc, .ref D', .int n]))) (hD : w1 D' = some (.inl (5, cap, qc h))) (hc : cap = 10 ∨ cap = 15) (hf1 : ∀ a, a ≠ L → a ≠ D' → w1 a = w0 a) (hfr : (D' = D ∧ ∃ c z, w0 D = some (.inl (5, c, z))) ∨ (w0 D' = none ∧ g.2 D' = none)) (hr : ∀ i b, h i = some b → isRow w0 b) (hrw : ∀ i b, h i = some b → isRow w1 b) (k0 : 0 ≤ i.toInt) (k1 : i.toInt ≤ n.toInt) (hn1 : n.toInt < (cap : Int)) (hk : k ≤ 1) (hm : m ≤ 15) {H : (Nat → Option Nat) → Prop} (hH : H (va_up (va_cpy h h i.toNatClampNeg (i + 1).toNatClampNeg (n - i).toNatClampNeg) i.toNatClampNeg (some b))) (hQ : ∀ w', LPo g w0 w' L D (n + 1) H → Q (.inl none) w') : WP (MJx4a65c_add_7a177 g) Q (38, [some (.ref L), some (.int i), some (.ref b), some (.int n), some (.ref D')], [], w1, k, m) := by
  have iv : vp_in i cap := vpiM k0 (by omega)
  have hLD : L ≠ D' := fun e => by
    rw [e, hD] at hL
    cases hL
  obtain ⟨i1, hi1⟩ : ∃ i1, i + 1 = i1 := ⟨_, rfl⟩
  obtain ⟨d, hd⟩ : ∃ d, n - i = d := ⟨_, rfl⟩
  obtain ⟨n9, hn9⟩ : ∃ n9, n + 1 = n9 := ⟨_, rfl⟩
  have e1 : n9.toInt = n.toInt + 1 := by rw [← hn9]; exact i32p1 (by omega) (by omega)
  have e2 : i1.toInt = i.toInt + 1 := by rw [← hi1]; exact i32p1 (by omega) (by omega)
  have e3 : d.toInt = n.toInt - i.toInt := by rw [← hd]; exact i32_sub (by omega) (by omega)
  have t1 : i.toNatClampNeg = i.toInt.toNat := rfl
  have t2 : i1.toNatClampNeg = i1.toInt.toNat := rfl
  have t3 : d.toNatClampNeg = d.toInt.toNat := rfl
  have g1 : i.toNatClampNeg + d.toNatClampNeg ≤ cap := by omega
  have g2 : i1.toNatClampNeg + d.toNatClampNeg ≤ cap := by omega
  have hbw2 : isRow (upw w1 D' (.inl (5, cap, qc (va_cpy h h i.toNatClampNeg i1.toNatClampNeg d.toNatClampNeg)))) b := isRow_up hbw hD (fun z e => by cases e)
  simp only [eJx4a65c_add_7a177_38, eJx4a65c_add_7a177_38N, eJx4a65c_add_7a177_40, eJx4a65c_add_7a177_41, eJx4a65c_add_7a177_41N, eJx4a65c_add_7a177_43, eJx4a65c_add_7a177_44, eJx4a65c_add_7a177_45, eJx4a65c_add_7a177_46, eJx4a65c_add_7a177_47, eJx4a65c_add_7a177_48, eJx4a65c_add_7a177_49O, eJx4a65c_add_7a177_49B, eJx4a65c_add_7a177_52, eJx4a65c_add_7a177_52N, eJx4a65c_add_7a177_54, eJx4a65c_add_7a177_55, eJx4a65c_add_7a177_55N, eJx4a65c_add_7a177_56N, eJx4a65c_add_7a177_56R, eJx4a65c_add_7a177_57, eJx4a65c_add_7a177_57N, eJx4a65c_add_7a177_58, eJx4a65c_add_7a177_59, eJx4a65c_add_7a177_60, eJx4a65c_add_7a177_61, eJx4a65c_add_7a177_64, ite_le, n45, n54, true_or, or_true, false_or, or_false, false_and, and_false, kx_l, kx_r, go_s, gl_s, gi_s, gb_s2, gb_s3, gq_s, wt_nil, wt_int, wt_long, wt_ref, wt_null, nl_int, nl_long, nl_ref, nl_null, nl_none, rf_n, rf_s, rf_st, tl_s, tl_n, g0, gS, ex1, nb_b, nb_0, nb_1, nf_i, nf_l, nf_ra, nf_ro, nf_na, nf_no, nf_b0, nf_z0, t45_4, t45_5, true_and, and_true, List.set_cons_zero, List.set_cons_succ, List.length_cons, List.length_nil, rd_s, upw_s, ne_eq, not_false_eq_true, Nat.zero_add, Nat.add_zero, if_true, if_false, eq_self, hL, hD, hLD, hLD.symm, upw_n, al56, hi1, hd, hn9, i32_z k0, i32_z (show 0 ≤ i1.toInt by omega), i32_z (show 0 ≤ d.toInt by omega), upw2q, eJx4a65c_add_7a177_49O hD hD]
  repeat' first
    | with_reducible assumption
    | with_reducible refine And.intro ?_ ?_
    | with_reducible refine Or.inr ?_
    | with_reducible exact gl_Roww hbw2 (fun _ => trivial)
    | with_reducible exact fun j y _ hy => gl_Roww (hrw _ _ hy) (fun _ => trivial)
    | with_reducible exact trivial
    | omega
  rw [hn9] at hQ
  rw [hi1, hd] at hH
  refine hQ _ (LPom (D' := D') (cap' := cap) (mc' := mc) h0 (upw_s _ _ _) (by rw [upw_n hLD.symm]; exact upw_s _ _ _) hc (by omega) (by omega) (fun a n1 n2 => by rw [upw_n n1, upw_n n2]; first | exact hf1 a n1 n2 | (rw [upw_n n2]; exact hf1 a n1 n2)) hfr (va_up_row (cpy_row hr hr) (fun b0 e => by
    cases e
    exact hb)) hH)
set_option maxHeartbeats 4000000 in
theorem sJx4a65c_add_7a177R {L D cap b : Nat} {n i : Int32} {h : Nat → Option Nat} (hb : isRow w b) (hE : EG g w) (hS : SG g) (hl : LL g w L D cap n h) (hr : ∀ i b, h i = some b → isRow w b) (k0 : 0 ≤ i.toInt) (k1 : i.toInt ≤ n.toInt) (hn : n.toInt < 15) (hQ : ∀ w', LPo g w w' L D (n + 1) (HIn h n.toNatClampNeg i.toNatClampNeg (some b)) → Q (.inl none) w') : WP (MJx4a65c_add_7a177 g) Q (0, [some (.ref L), some (.int i), some (.ref b), none, none], [], w, 0, 0) := by
  obtain ⟨mc, hL, rL, rD, hn0, hn1, n1, n2⟩ := hl.opn
  have ti : (i + 1).toNatClampNeg = i.toNatClampNeg + 1 := by
    have e := i32p1 (c := i) k0 (by omega)
    show (i + 1).toInt.toNat = i.toInt.toNat + 1
    rw [e]
    omega
  have td : (n - i).toNatClampNeg = n.toNatClampNeg - i.toNatClampNeg := by
    have e : (n - i).toInt = n.toInt - i.toInt := i32_sub (by omega) (by omega)
    show (n - i).toInt.toNat = n.toInt.toNat - i.toInt.toNat
    rw [e]
    omega
  have kin : i.toNatClampNeg ≤ n.toNatClampNeg := by
    show i.toInt.toNat ≤ n.toInt.toNat
    omega
  obtain ⟨w1, hw1⟩ : ∃ w1, upw w L (.inr (3, [.int (mc + 1), .ref D, .int n])) = w1 := ⟨_, rfl⟩
  have hE1 : EG g w1 := by
    rw [← hw1]
    obtain ⟨⟨e, e1, e2, e3⟩, m⟩ := hE
    refine ⟨⟨e, e1, e2, ?_⟩, m⟩
    rw [upw_n]
    · exact e3
    · rintro rfl
      rw [hL] at e3
      cases e3
  have hL1 : w1 L = some (.inr (3, [.int (mc + 1), .ref D, .int n])) := by rw [← hw1]; exact upw_s _ _ _
  have rL1 := rd_e (g := g) hL1
  have rD1 : rd g w1 D = some (.inl (5, cap, qc h)) := by
    rw [← hw1, rd_n n2]
    exact rD
  have hf : ∀ a, a ≠ L → w1 a = w a := fun a ha => by rw [← hw1]; exact upw_n ha
  have tr : ∀ b, isRow w b → isRow w1 b := fun b hb => by
    rw [← hw1]
    exact isRow_up hb hL (fun z e => by cases e)
  have hrw : ∀ i b, h i = some b → isRow w1 b := fun i b hb => tr b (hr i b hb)
  have eN := ofNc (N := cap) (by
    rcases hl.2.1 with ⟨-, e | e⟩ | ⟨e, -⟩ <;> omega)
  have q1 : (n < i) = False := i32_f k1
  have q2 : ((0 : Int32) ≤ i) = True := eq_true (Int32.le_iff_toInt_le.mpr (by have z0 : (0 : Int32).toInt = 0 := rfl; omega))
  simp only [eJx4a65c_add_7a177_0, eJx4a65c_add_7a177_0N, eJx4a65c_add_7a177_1, eJx4a65c_add_7a177_2, eJx4a65c_add_7a177_5, eJx4a65c_add_7a177_5N, eJx4a65c_add_7a177_6, eJx4a65c_add_7a177_6R, eJx4a65c_add_7a177_7, eJx4a65c_add_7a177_10, eJx4a65c_add_7a177_11, eJx4a65c_add_7a177_12, eJx4a65c_rangeCheckForAdd_d00df_0, eJx4a65c_rangeCheckForAdd_d00df_1, eJx4a65c_rangeCheckForAdd_d00df_1N, eJx4a65c_rangeCheckForAdd_d00df_2, eJx4a65c_rangeCheckForAdd_d00df_5, eJx4a65c_rangeCheckForAdd_d00df_8, eJx4a65c_rangeCheckForAdd_d00df_9, eJx4a65c_rangeCheckForAdd_d00df_15, eJx4a65c_rangeCheckForAdd_d00df_15R, eJx4a65c_rangeCheckForAdd_d00df_16, eJx4a65c_rangeCheckForAdd_d00df_16N, eJx4a65c_rangeCheckForAdd_d00df_17, eJx4a65c_rangeCheckForAdd_d00df_25, ite_le, n45, n54, true_or, or_true, false_or, or_false, false_and, and_false, kx_l, kx_r, go_s, gl_s, gi_s, gb_s2, gb_s3, gq_s, wt_nil, wt_int, wt_long, wt_ref, wt_null, nl_int, nl_long, nl_ref, nl_null, nl_none, rf_n, rf_s, rf_st, tl_s, tl_n, g0, gS, ex1, nb_b, nb_0, nb_1, nf_i, nf_l, nf_ra, nf_ro, nf_na, nf_no, nf_b0, nf_z0, t45_4, t45_5, true_and, and_true, List.set_cons_zero, List.set_cons_succ, List.length_cons, List.length_nil, rd_s, upw_s, ne_eq, not_false_eq_true, Nat.zero_add, Nat.add_zero, if_true, if_false, eq_self, rL, hL, q1, q2, hw1]
  repeat' first | with_reducible refine And.intro ?_ ?_ | omega
  simp only [eJx4a65c_add_7a177_12, eJx4a65c_add_7a177_15, eJx4a65c_add_7a177_15N, eJx4a65c_add_7a177_16, eJx4a65c_add_7a177_19, eJx4a65c_add_7a177_19R, eJx4a65c_add_7a177_20, eJx4a65c_add_7a177_21, eJx4a65c_add_7a177_21N, eJx4a65c_add_7a177_22, eJx4a65c_add_7a177_25, eJx4a65c_add_7a177_25R, eJx4a65c_add_7a177_26, eJx4a65c_add_7a177_26N, eJx4a65c_add_7a177_28, eJx4a65c_add_7a177_29, ite_le, n45, n54, true_or, or_true, false_or, or_false, false_and, and_false, kx_l, kx_r, go_s, gl_s, gi_s, gb_s2, gb_s3, gq_s, wt_nil, wt_int, wt_long, wt_ref, wt_null, nl_int, nl_long, nl_ref, nl_null, nl_none, rf_n, rf_s, rf_st, tl_s, tl_n, g0, gS, ex1, nb_b, nb_0, nb_1, nf_i, nf_l, nf_ra, nf_ro, nf_na, nf_no, nf_b0, nf_z0, t45_4, t45_5, true_and, and_true, List.set_cons_zero, List.set_cons_succ, List.length_cons, List.length_nil, rd_s, upw_s, ne_eq, not_false_eq_true, Nat.zero_add, Nat.add_zero, if_true, if_false, eq_self, rL1, rD1, exal2, al56]
  split
  · next he =>
    have he : n.toInt = (cap : Int) := by rw [he, eN]
    simp only [eJx4a65c_add_7a177_32, eJx4a65c_add_7a177_32N, eJx4a65c_add_7a177_33, ite_le, n45, n54, true_or, or_true, false_or, or_false, false_and, and_false, kx_l, kx_r, go_s, gl_s, gi_s, gb_s2, gb_s3, gq_s, wt_nil, wt_int, wt_long, wt_ref, wt_null, nl_int, nl_long, nl_ref, nl_null, nl_none, rf_n, rf_s, rf_st, tl_s, tl_n, g0, gS, ex1, nb_b, nb_0, nb_1, nf_i, nf_l, nf_ra, nf_ro, nf_na, nf_no, nf_b0, nf_z0, t45_4, t45_5, true_and, and_true, List.set_cons_zero, List.set_cons_succ, List.length_cons, List.length_nil, rd_s, upw_s, ne_eq, not_false_eq_true, Nat.zero_add, Nat.add_zero, if_true, if_false, eq_self, rL1]
    repeat' first | with_reducible refine And.intro ?_ ?_ | omega
    obtain ⟨-, h2, -, -⟩ := hl
    have grown : ∀ (q c9 : Nat) (h9 : Nat → Option Nat), rd g w1 q = none → (c9 = 10 ∨ c9 = 15) → n.toInt < (c9 : Int) → (∀ i b, h9 i = some b → isRow w b) → (∀ j, j < n.toNatClampNeg → h9 j = h j) → ∀ (k m : Nat), k ≤ 1 → m ≤ 15 → WP (MJx4a65c_add_7a177 g) Q (38, [some (.ref L), some (.int i), some (.ref b), some (.int n), some (.ref q)], [], upw (upw w1 q (.inl (5, c9, qc h9))) L (.inr (3, [.int (mc + 1), .ref q, .int n])), k, m) := by
      intro q c9 h9 hq hc hlt hr9 hk9 k m hk hm
      have hqn := rd_none hq
      have hqL : q ≠ L := fun e => by
        rw [e, hL1] at hqn
        cases hqn
      have tr2 : ∀ b, isRow w b → isRow (upw (upw w1 q (.inl (5, c9, qc h9))) L (.inr (3, [.int (mc + 1), .ref q, .int n]))) b := fun b hb => by
        obtain ⟨f0, hrow⟩ := tr b hb
        have b1 : b ≠ L := fun e => by
          rw [e, hL1] at hrow
          cases hrow
        have b2 : b ≠ q := fun e => by
          rw [e, hqn] at hrow
          cases hrow
        exact ⟨f0, by rw [upw_n b1, upw_n b2]; exact hrow⟩
      exact lJx4a65c_add_7a177_38R (w0 := w) (D' := q) (cap := c9) hb (tr2 b hb) hL (upw_s _ _ _) (by rw [upw_n hqL]; exact upw_s _ _ _) hc (fun a a1 a2 => by rw [upw_n a1, upw_n a2]; exact hf a a1) (Or.inr ⟨by rw [← hf q hqL]; exact hqn, rd_ro hq⟩) hr9 (fun i b hb => tr2 b (hr9 i b hb)) k0 k1 hlt hk hm (HIn.mk hk9 kin ti td) hQ
    rcases h2 with ⟨h2, rfl | rfl⟩ | ⟨rfl, d1, d2, d3⟩
    · have n10 : n = 10 := Int32.toInt_inj.mp (by rw [he]; rfl)
      refine sJx4a65c_grow10 hE1 hS hL1 (by rw [hf D n2]; exact h2) hrw n10 (fun q hq => ?_)
      simp only [eJx4a65c_add_7a177_36, eJx4a65c_add_7a177_36N, ite_le, n45, n54, true_or, or_true, false_or, or_false, false_and, and_false, kx_l, kx_r, go_s, gl_s, gi_s, gb_s2, gb_s3, gq_s, wt_nil, wt_int, wt_long, wt_ref, wt_null, nl_int, nl_long, nl_ref, nl_null, nl_none, rf_n, rf_s, rf_st, tl_s, tl_n, g0, gS, ex1, nb_b, nb_0, nb_1, nf_i, nf_l, nf_ra, nf_ro, nf_na, nf_no, nf_b0, nf_z0, t45_4, t45_5, true_and, and_true, List.set_cons_zero, List.set_cons_succ, List.length_cons, List.length_nil, rd_s, upw_s, ne_eq, not_false_eq_true, Nat.zero_add, Nat.add_zero, if_true, if_false, eq_self]
      exact grown q 15 _ hq (Or.inr rfl) (by omega) (cpy_row hr (fun _ _ e => by cases e)) (fun j hj => cpy0 (by have t : n.toNatClampNeg = n.toInt.toNat := rfl; omega)) _ _ (by decide) (by decide)
    · omega
    · have n00 : n = 0 := Int32.toInt_inj.mp (by rw [he]; rfl)
      refine sJx4a65c_grow0 hE1 hS hL1 ⟨d1, by rw [hf D n2]; exact d2, d3⟩ n00 (fun q hq => ?_)
      simp only [eJx4a65c_add_7a177_36, eJx4a65c_add_7a177_36N, ite_le, n45, n54, true_or, or_true, false_or, or_false, false_and, and_false, kx_l, kx_r, go_s, gl_s, gi_s, gb_s2, gb_s3, gq_s, wt_nil, wt_int, wt_long, wt_ref, wt_null, nl_int, nl_long, nl_ref, nl_null, nl_none, rf_n, rf_s, rf_st, tl_s, tl_n, g0, gS, ex1, nb_b, nb_0, nb_1, nf_i, nf_l, nf_ra, nf_ro, nf_na, nf_no, nf_b0, nf_z0, t45_4, t45_5, true_and, and_true, List.set_cons_zero, List.set_cons_succ, List.length_cons, List.length_nil, rd_s, upw_s, ne_eq, not_false_eq_true, Nat.zero_add, Nat.add_zero, if_true, if_false, eq_self]
      exact grown q 10 _ hq (Or.inl rfl) (by omega) (fun _ _ e => by cases e) (fun j hj => by have t : n.toNatClampNeg = n.toInt.toNat := rfl; exfalso; omega) _ _ (by decide) (by decide)
  · next he =>
    have he : n.toInt ≠ (cap : Int) := fun e => he (Int32.toInt_inj.mp (by rw [e, eN]))
    obtain ⟨-, h2, -, -⟩ := hl
    rcases h2 with ⟨h2, h3⟩ | ⟨rfl, -⟩
    · exact lJx4a65c_add_7a177_38R (w0 := w) (D' := D) hb (tr b hb) hL hL1 (by rw [hf D n2]; exact h2) h3 (fun a a1 _ => hf a a1) (Or.inl ⟨rfl, cap, _, h2⟩) hr hrw k0 k1 (by omega) (by decide) (by decide) (HIn.mk (fun _ _ => rfl) kin ti td) hQ
    · omega
end
end
/-! 61.list4.lean.txt -/
section
section
variable {g : RO} {Q : Ot → Hw → Prop} {w0 w : Hw}
set_option maxHeartbeats 4000000 in
theorem sJx4a65c_fastRemove_b59b0 {L D cap : Nat} {mc n i : Int32} {h : Nat → Option Nat} (hL : w L = some (.inr (3, [.int mc, .ref D, .int n]))) (hD : w D = some (.inl (5, cap, qc h))) (hc : cap = 10 ∨ cap = 15) (hr : ∀ i b, h i = some b → isRow w b) (k0 : 0 ≤ i.toInt) (k1 : i.toInt < n.toInt) (hn : n.toInt ≤ (cap : Int)) (hQ : ∀ w', LPo g w w' L D (n - 1) (HRm h n.toNatClampNeg i.toNatClampNeg) → Q (.inl none) w') : WP (MJx4a65c_fastRemove_b59b0 g) Q (0, [some (.ref L), some (.ref D), some (.int i), none], [], w, 0, 0) := by
  have rL := rd_e (g := g) hL
  have rD := rd_e (g := g) hD
  have n1 : L ≠ D := fun e => by
    rw [e, hD] at hL
    cases hL
  have n2 := n1.symm
  obtain ⟨m, hm⟩ : ∃ m, n - 1 = m := ⟨_, rfl⟩
  obtain ⟨i1, hi1⟩ : ∃ i1, i + 1 = i1 := ⟨_, rfl⟩
  obtain ⟨d, hd⟩ : ∃ d, m - i = d := ⟨_, rfl⟩
  have z1 : (1 : Int32).toInt = 1 := rfl
  have e1 : m.toInt = n.toInt - 1 := by
    rw [← hm, i32_sub (by omega) (by omega), z1]
  have e2 : i1.toInt = i.toInt + 1 := by rw [← hi1]; exact i32p1 (by omega) (by omega)
  have e3 : d.toInt = m.toInt - i.toInt := by rw [← hd]; exact i32_sub (by omega) (by omega)
  have t1 : i.toNatClampNeg = i.toInt.toNat := rfl
  have t2 : i1.toNatClampNeg = i1.toInt.toNat := rfl
  have t3 : d.toNatClampNeg = d.toInt.toNat := rfl
  have t4 : m.toNatClampNeg = m.toInt.toNat := rfl
  have t5 : n.toNatClampNeg = n.toInt.toNat := rfl
  have mv : vp_in m cap := vpiM (by omega) (by omega)
  have q1 : upw w L (.inr (3, [.int (mc + 1), .ref D, .int n])) D = some (.inl (5, cap, qc h)) := by rw [upw_n n2]; exact hD
  have tr : ∀ b, isRow w b → isRow (upw w L (.inr (3, [.int (mc + 1), .ref D, .int n]))) b := fun b hb => isRow_up hb hL (fun z e => by cases e)
  rw [hm] at hQ
  simp only [eJx4a65c_fastRemove_b59b0_0, eJx4a65c_fastRemove_b59b0_0N, eJx4a65c_fastRemove_b59b0_1, eJx4a65c_fastRemove_b59b0_1R, eJx4a65c_fastRemove_b59b0_2, eJx4a65c_fastRemove_b59b0_5, eJx4a65c_fastRemove_b59b0_6, eJx4a65c_fastRemove_b59b0_7, eJx4a65c_fastRemove_b59b0_10, eJx4a65c_fastRemove_b59b0_10N, eJx4a65c_fastRemove_b59b0_11, eJx4a65c_fastRemove_b59b0_14, eJx4a65c_fastRemove_b59b0_15, eJx4a65c_fastRemove_b59b0_16, eJx4a65c_fastRemove_b59b0_16R, eJx4a65c_fastRemove_b59b0_17, eJx4a65c_fastRemove_b59b0_18, eJx4a65c_fastRemove_b59b0_19, ite_le, n45, n54, true_or, or_true, false_or, or_false, false_and, and_false, kx_l, kx_r, go_s, gl_s, gi_s, gb_s2, gb_s3, gq_s, wt_nil, wt_int, wt_long, wt_ref, wt_null, nl_int, nl_long, nl_ref, nl_null, nl_none, rf_n, rf_s, rf_st, tl_s, tl_n, g0, gS, ex1, nb_b, nb_0, nb_1, nf_i, nf_l, nf_ra, nf_ro, nf_na, nf_no, nf_b0, nf_z0, t45_4, t45_5, true_and, and_true, List.set_cons_zero, List.set_cons_succ, List.length_cons, List.length_nil, rd_s, upw_s, ne_eq, not_false_eq_true, Nat.zero_add, Nat.add_zero, if_true, if_false, eq_self, rL, hL, hm]
  repeat' first | with_reducible refine And.intro ?_ ?_ | omega
  split
  · next hle =>
    have hle := i32_lt hle
    have g1 : i1.toNatClampNeg + d.toNatClampNeg ≤ cap := by omega
    have g2 : i.toNatClampNeg + d.toNatClampNeg ≤ cap := by omega
    simp only [eJx4a65c_fastRemove_b59b0_22, eJx4a65c_fastRemove_b59b0_22N, eJx4a65c_fastRemove_b59b0_23, eJx4a65c_fastRemove_b59b0_24, eJx4a65c_fastRemove_b59b0_25, eJx4a65c_fastRemove_b59b0_26, eJx4a65c_fastRemove_b59b0_26N, eJx4a65c_fastRemove_b59b0_27, eJx4a65c_fastRemove_b59b0_28, eJx4a65c_fastRemove_b59b0_29, eJx4a65c_fastRemove_b59b0_30, eJx4a65c_fastRemove_b59b0_31O, eJx4a65c_fastRemove_b59b0_31B, eJx4a65c_fastRemove_b59b0_34, eJx4a65c_fastRemove_b59b0_34N, eJx4a65c_fastRemove_b59b0_35, eJx4a65c_fastRemove_b59b0_35N, eJx4a65c_fastRemove_b59b0_36, eJx4a65c_fastRemove_b59b0_37IR, eJx4a65c_fastRemove_b59b0_37RR, eJx4a65c_fastRemove_b59b0_38, eJx4a65c_fastRemove_b59b0_41, eJx4a65c_fastRemove_b59b0_42N, eJx4a65c_fastRemove_b59b0_42R, eJx4a65c_fastRemove_b59b0_43, ite_le, n45, n54, true_or, or_true, false_or, or_false, false_and, and_false, kx_l, kx_r, go_s, gl_s, gi_s, gb_s2, gb_s3, gq_s, wt_nil, wt_int, wt_long, wt_ref, wt_null, nl_int, nl_long, nl_ref, nl_null, nl_none, rf_n, rf_s, rf_st, tl_s, tl_n, g0, gS, ex1, nb_b, nb_0, nb_1, nf_i, nf_l, nf_ra, nf_ro, nf_na, nf_no, nf_b0, nf_z0, t45_4, t45_5, true_and, and_true, List.set_cons_zero, List.set_cons_succ, List.length_cons, List.length_nil, rd_s, upw_s, ne_eq, not_false_eq_true, Nat.zero_add, Nat.add_zero, if_true, if_false, eq_self, hi1, hd, hL, n1, n2, upw_n, rd_n, hD, upw2q, i32_z k0, i32_z (show 0 ≤ i1.toInt by omega), i32_z (show 0 ≤ d.toInt by omega), eJx4a65c_fastRemove_b59b0_31O q1 q1]
    repeat' first
      | with_reducible assumption
      | with_reducible refine And.intro ?_ ?_
      | with_reducible exact fun j y _ hy => gl_Roww (tr _ (hr _ _ hy)) (fun _ => trivial)
      | omega
    all_goals refine hQ _ (LPom (D' := D) (cap' := cap) (mc' := mc + 1) hL (by rw [upw_n n1]; exact upw_s _ _ _) (upw_s _ _ _) hc (by omega) (by omega) (fun a a1 a2 => by simp only [upw_n a1, upw_n a2]) (Or.inl ⟨rfl, cap, _, hD⟩) (va_up_row (cpy_row hr hr) (fun _ e => by cases e)) (HRm.mk1 (by omega) (by omega) (by omega) (by omega)))
  · next hle =>
    have hle := i32_nlt hle
    simp only [eJx4a65c_fastRemove_b59b0_34, eJx4a65c_fastRemove_b59b0_34N, eJx4a65c_fastRemove_b59b0_35, eJx4a65c_fastRemove_b59b0_35N, eJx4a65c_fastRemove_b59b0_36, eJx4a65c_fastRemove_b59b0_37IR, eJx4a65c_fastRemove_b59b0_37RR, eJx4a65c_fastRemove_b59b0_38, eJx4a65c_fastRemove_b59b0_41, eJx4a65c_fastRemove_b59b0_42N, eJx4a65c_fastRemove_b59b0_42R, eJx4a65c_fastRemove_b59b0_43, ite_le, n45, n54, true_or, or_true, false_or, or_false, false_and, and_false, kx_l, kx_r, go_s, gl_s, gi_s, gb_s2, gb_s3, gq_s, wt_nil, wt_int, wt_long, wt_ref, wt_null, nl_int, nl_long, nl_ref, nl_null, nl_none, rf_n, rf_s, rf_st, tl_s, tl_n, g0, gS, ex1, nb_b, nb_0, nb_1, nf_i, nf_l, nf_ra, nf_ro, nf_na, nf_no, nf_b0, nf_z0, t45_4, t45_5, true_and, and_true, List.set_cons_zero, List.set_cons_succ, List.length_cons, List.length_nil, rd_s, upw_s, ne_eq, not_false_eq_true, Nat.zero_add, Nat.add_zero, if_true, if_false, eq_self, rL, hL, hm, n1, n2, upw_n, rd_n, hD, upw2q]
    repeat' first | with_reducible assumption | with_reducible refine And.intro ?_ ?_ | omega
    all_goals refine hQ _ (LPom (D' := D) (cap' := cap) (mc' := mc + 1) hL (by rw [upw_n n1]; exact upw_s _ _ _) (upw_s _ _ _) hc (by omega) (by omega) (fun a a1 a2 => by rw [upw_n a2, upw_n a1]; first | done | (rw [upw_n a1])) (Or.inl ⟨rfl, cap, _, hD⟩) (va_up_row hr (fun _ e => by cases e)) (HRm.mk2 (by omega) (by omega) (by omega)))
set_option maxHeartbeats 4000000 in
theorem sJx4a65c_remove_915e3 {L D cap : Nat} {n i : Int32} {h : Nat → Option Nat} (hl : LL g w L D cap n h) (hr : ∀ i b, h i = some b → isRow w b) (k0 : 0 ≤ i.toInt) (k1 : i.toInt < n.toInt) (hN : h i.toNatClampNeg = none → ∀ w', LPo g w w' L D (n - 1) (HRm h n.toNatClampNeg i.toNatClampNeg) → Q (.inl (some .null)) w') (hR : ∀ b, h i.toNatClampNeg = some b → ∀ w', LPo g w w' L D (n - 1) (HRm h n.toNatClampNeg i.toNatClampNeg) → Q (.inl (some (.ref b))) w') : WP (MJx4a65c_remove_915e3 g) Q (0, [some (.ref L), some (.int i), none, none], [], w, 0, 0) := by
  obtain ⟨mc, hL, rL, rD, hn0, hn1, n1, n2⟩ := hl.opn
  have iv : vp_in i cap := vpiM k0 (by omega)
  have hD : w D = some (.inl (5, cap, qc h)) ∧ (cap = 10 ∨ cap = 15) := by
    rcases hl.2.1 with h2 | ⟨rfl, -⟩
    · exact h2
    · omega
  simp only [eJx4a65c_remove_915e3_0, eJx4a65c_remove_915e3_1, eJx4a65c_remove_915e3_1N, eJx4a65c_remove_915e3_2, eJx4a65c_remove_915e3_5, eJx4a65c_remove_915e3_8, eJx4a65c_remove_915e3_8R, eJx4a65c_remove_915e3_8N, eJx4a65c_remove_915e3_9, eJx4a65c_remove_915e3_9N, eJx4a65c_remove_915e3_10, eJx4a65c_remove_915e3_13, eJx4a65c_remove_915e3_13N, eJx4a65c_remove_915e3_14, eJx4a65c_remove_915e3_14N, eJx4a65c_remove_915e3_15, eJx4a65c_remove_915e3_16, eJ15_checkIndex_7cf53_0, eJ15_checkIndex_7cf53_1, eJ15_checkIndex_7cf53_2, eJ15_checkIndex_7cf53_3R, eJ15_checkIndex_7cf53_3N, eJ15_checkIndex_7cf53_6, eJ3_checkIndex_8e157_0, eJ3_checkIndex_8e157_1, eJ3_checkIndex_8e157_4, eJ3_checkIndex_8e157_5, eJ3_checkIndex_8e157_6, eJ3_checkIndex_8e157_9, eJ3_checkIndex_8e157_9N, eJ3_checkIndex_8e157_10, eJ3_checkIndex_8e157_11, eJ3_checkIndex_8e157_16, eJ3_checkIndex_8e157_17, ite_le, n45, n54, true_or, or_true, false_or, or_false, false_and, and_false, kx_l, kx_r, go_s, gl_s, gi_s, gb_s2, gb_s3, gq_s, wt_nil, wt_int, wt_long, wt_ref, wt_null, nl_int, nl_long, nl_ref, nl_null, nl_none, rf_n, rf_s, rf_st, tl_s, tl_n, g0, gS, ex1, nb_b, nb_0, nb_1, nf_i, nf_l, nf_ra, nf_ro, nf_na, nf_no, nf_b0, nf_z0, t45_4, t45_5, true_and, and_true, List.set_cons_zero, List.set_cons_succ, List.length_cons, List.length_nil, rd_s, upw_s, ne_eq, not_false_eq_true, Nat.zero_add, Nat.add_zero, if_true, if_false, eq_self, rL, rD, i32_z k0, i32_t k1]
  repeat' first | with_reducible assumption | with_reducible refine And.intro ?_ ?_ | omega
  · intro hh
    simp only [eJx4a65c_remove_915e3_17, eJx4a65c_remove_915e3_17N, eJx4a65c_remove_915e3_18, eJx4a65c_remove_915e3_18N, eJx4a65c_remove_915e3_19, eJx4a65c_remove_915e3_19N, eJx4a65c_remove_915e3_20, eJx4a65c_remove_915e3_21R, eJx4a65c_remove_915e3_21N, ite_le, n45, n54, true_or, or_true, false_or, or_false, false_and, and_false, kx_l, kx_r, go_s, gl_s, gi_s, gb_s2, gb_s3, gq_s, wt_nil, wt_int, wt_long, wt_ref, wt_null, nl_int, nl_long, nl_ref, nl_null, nl_none, rf_n, rf_s, rf_st, tl_s, tl_n, g0, gS, ex1, nb_b, nb_0, nb_1, nf_i, nf_l, nf_ra, nf_ro, nf_na, nf_no, nf_b0, nf_z0, t45_4, t45_5, true_and, and_true, List.set_cons_zero, List.set_cons_succ, List.length_cons, List.length_nil, rd_s, upw_s, ne_eq, not_false_eq_true, Nat.zero_add, Nat.add_zero, if_true, if_false, eq_self, rL]
    repeat' first | with_reducible refine And.intro ?_ ?_ | omega
    refine sJx4a65c_fastRemove_b59b0 hL hD.1 hD.2 hr k0 k1 hn1 (fun w' z => ?_)
    simp only [eJx4a65c_remove_915e3_24, eJx4a65c_remove_915e3_24N, eJx4a65c_remove_915e3_25, eJx4a65c_remove_915e3_25N, ite_le, n45, n54, true_or, or_true, false_or, or_false, false_and, and_false, kx_l, kx_r, go_s, gl_s, gi_s, gb_s2, gb_s3, gq_s, wt_nil, wt_int, wt_long, wt_ref, wt_null, nl_int, nl_long, nl_ref, nl_null, nl_none, rf_n, rf_s, rf_st, tl_s, tl_n, g0, gS, ex1, nb_b, nb_0, nb_1, nf_i, nf_l, nf_ra, nf_ro, nf_na, nf_no, nf_b0, nf_z0, t45_4, t45_5, true_and, and_true, List.set_cons_zero, List.set_cons_succ, List.length_cons, List.length_nil, rd_s, upw_s, ne_eq, not_false_eq_true, Nat.zero_add, Nat.add_zero, if_true, if_false]
    repeat' first | with_reducible refine And.intro ?_ ?_ | omega
    exact hN hh _ z
  · intro b hh
    simp only [eJx4a65c_remove_915e3_17, eJx4a65c_remove_915e3_17N, eJx4a65c_remove_915e3_18, eJx4a65c_remove_915e3_18N, eJx4a65c_remove_915e3_19, eJx4a65c_remove_915e3_19N, eJx4a65c_remove_915e3_20, eJx4a65c_remove_915e3_21R, eJx4a65c_remove_915e3_21N, ite_le, n45, n54, true_or, or_true, false_or, or_false, false_and, and_false, kx_l, kx_r, go_s, gl_s, gi_s, gb_s2, gb_s3, gq_s, wt_nil, wt_int, wt_long, wt_ref, wt_null, nl_int, nl_long, nl_ref, nl_null, nl_none, rf_n, rf_s, rf_st, tl_s, tl_n, g0, gS, ex1, nb_b, nb_0, nb_1, nf_i, nf_l, nf_ra, nf_ro, nf_na, nf_no, nf_b0, nf_z0, t45_4, t45_5, true_and, and_true, List.set_cons_zero, List.set_cons_succ, List.length_cons, List.length_nil, rd_s, upw_s, ne_eq, not_false_eq_true, Nat.zero_add, Nat.add_zero, if_true, if_false, eq_self, rL]
    repeat' first | with_reducible refine And.intro ?_ ?_ | omega
    refine sJx4a65c_fastRemove_b59b0 hL hD.1 hD.2 hr k0 k1 hn1 (fun w' z => ?_)
    simp only [eJx4a65c_remove_915e3_24, eJx4a65c_remove_915e3_24N, eJx4a65c_remove_915e3_25, eJx4a65c_remove_915e3_25N, ite_le, n45, n54, true_or, or_true, false_or, or_false, false_and, and_false, kx_l, kx_r, go_s, gl_s, gi_s, gb_s2, gb_s3, gq_s, wt_nil, wt_int, wt_long, wt_ref, wt_null, nl_int, nl_long, nl_ref, nl_null, nl_none, rf_n, rf_s, rf_st, tl_s, tl_n, g0, gS, ex1, nb_b, nb_0, nb_1, nf_i, nf_l, nf_ra, nf_ro, nf_na, nf_no, nf_b0, nf_z0, t45_4, t45_5, true_and, and_true, List.set_cons_zero, List.set_cons_succ, List.length_cons, List.length_nil, rd_s, upw_s, ne_eq, not_false_eq_true, Nat.zero_add, Nat.add_zero, if_true, if_false]
    repeat' first | with_reducible refine And.intro ?_ ?_ | omega
    exact hR b hh _ z
end
end
/-! 61.list5.lean.txt -/
section
section
variable {g : RO} {Q : Ot → Hw → Prop} {w0 w : Hw}
set_option maxHeartbeats 4000000 in
theorem sJx4a65c_iterator_32c93 {L D cap : Nat} {n : Int32} {h : Nat → Option Nat} (hl : LL g w L D cap n h) (hQ : ∀ q mc, w L = some (.inr (3, [.int mc, .ref D, .int n])) → rd g w q = none → Q (.inl (some (.ref q))) (upw w q (.inr (2, [.int 0, .int (-1), .int mc, .ref L])))) : WP (MJx4a65c_iterator_32c93 g) Q (0, [some (.ref L)], [], w, 0, 0) := by
  obtain ⟨mc, hL, rL, rD, hn0, hn1, n1, n2⟩ := hl.opn
  simp only [eJx4a65c_iterator_32c93_0, ite_le, n45, n54, true_or, or_true, false_or, or_false, false_and, and_false, kx_l, kx_r, go_s, gl_s, gi_s, gb_s2, gb_s3, gq_s, wt_nil, wt_int, wt_long, wt_ref, wt_null, nl_int, nl_long, nl_ref, nl_null, nl_none, rf_n, rf_s, rf_st, tl_s, tl_n, g0, gS, ex1, nb_b, nb_0, nb_1, nf_i, nf_l, nf_ra, nf_ro, nf_na, nf_no, nf_b0, nf_z0, t45_4, t45_5, true_and, and_true, List.set_cons_zero, List.set_cons_succ, List.length_cons, List.length_nil, rd_s, upw_s, ne_eq, not_false_eq_true, Nat.zero_add, Nat.add_zero, if_true, if_false, eq_self]
  repeat' first | with_reducible refine And.intro ?_ ?_ | omega
  intro q hq
  have hqn := rd_none hq
  have hqL : L ≠ q := fun e => by
    rw [← e, hL] at hqn
    cases hqn
  simp only [eJx4a65c_iterator_32c93_0, eJx4a65c_iterator_32c93_3, eJx4a65c_iterator_32c93_3R, eJx4a65c_iterator_32c93_4, eJx4a65c_iterator_32c93_4N, eJx4a65c_iterator_32c93_5R, eJx4a65c_iterator_32c93_5N, eJx4a65c_iterator_32c93_8, eJx4a65c_iterator_32c93_8N, eJx35411_init_45d68_0, eJx35411_init_45d68_0N, eJx35411_init_45d68_1, eJx35411_init_45d68_1N, eJx35411_init_45d68_2, eJx35411_init_45d68_5, eJx35411_init_45d68_5N, eJx35411_init_45d68_6, eJx35411_init_45d68_9, eJx35411_init_45d68_9N, eJx35411_init_45d68_10, eJx35411_init_45d68_11, eJx35411_init_45d68_14, eJx35411_init_45d68_14N, eJx35411_init_45d68_15, eJx35411_init_45d68_15N, eJx35411_init_45d68_16, eJx35411_init_45d68_19, eJx35411_init_45d68_22, eJx35411_init_45d68_25, ite_le, n45, n54, true_or, or_true, false_or, or_false, false_and, and_false, kx_l, kx_r, go_s, gl_s, gi_s, gb_s2, gb_s3, gq_s, wt_nil, wt_int, wt_long, wt_ref, wt_null, nl_int, nl_long, nl_ref, nl_null, nl_none, rf_n, rf_s, rf_st, tl_s, tl_n, g0, gS, ex1, nb_b, nb_0, nb_1, nf_i, nf_l, nf_ra, nf_ro, nf_na, nf_no, nf_b0, nf_z0, t45_4, t45_5, true_and, and_true, List.set_cons_zero, List.set_cons_succ, List.length_cons, List.length_nil, rd_s, upw_s, ne_eq, not_false_eq_true, Nat.zero_add, Nat.add_zero, if_true, if_false, eq_self, hqL, rd_n, upw_n, upw2q, rL, tyJx35411, nf_ro]
  repeat' first | with_reducible refine And.intro ?_ ?_ | omega
  all_goals first | exact trivial | exact hQ q mc hL hq
set_option maxHeartbeats 4000000 in
theorem sJx35411_hasNext_aae02 {q L D cap : Nat} {c lr mx n mc : Int32} (hq : w q = some (.inr (2, [.int c, .int lr, .int mx, .ref L]))) (hL : w L = some (.inr (3, [.int mc, .ref D, .int n]))) (h0 : c = n → Q (.inl (some (.int 0))) w) (h1 : ¬ c = n → Q (.inl (some (.int 1))) w) : WP (MJx35411_hasNext_aae02 g) Q (0, [some (.ref q)], [], w, 0, 0) := by
  have rq := rd_e (g := g) hq
  have rL := rd_e (g := g) hL
  simp only [eJx35411_hasNext_aae02_0, eJx35411_hasNext_aae02_0N, eJx35411_hasNext_aae02_1, eJx35411_hasNext_aae02_4, eJx35411_hasNext_aae02_4N, eJx35411_hasNext_aae02_5, eJx35411_hasNext_aae02_8, eJx35411_hasNext_aae02_11, ite_le, n45, n54, true_or, or_true, false_or, or_false, false_and, and_false, kx_l, kx_r, go_s, gl_s, gi_s, gb_s2, gb_s3, gq_s, wt_nil, wt_int, wt_long, wt_ref, wt_null, nl_int, nl_long, nl_ref, nl_null, nl_none, rf_n, rf_s, rf_st, tl_s, tl_n, g0, gS, ex1, nb_b, nb_0, nb_1, nf_i, nf_l, nf_ra, nf_ro, nf_na, nf_no, nf_b0, nf_z0, t45_4, t45_5, true_and, and_true, List.set_cons_zero, List.set_cons_succ, List.length_cons, List.length_nil, rd_s, upw_s, ne_eq, not_false_eq_true, Nat.zero_add, Nat.add_zero, rq, rL]
  split
  · simp only [eJx35411_hasNext_aae02_14, eJx35411_hasNext_aae02_15, eJx35411_hasNext_aae02_18, eJx35411_hasNext_aae02_19, ite_le, n45, n54, true_or, or_true, false_or, or_false, false_and, and_false, kx_l, kx_r, go_s, gl_s, gi_s, gb_s2, gb_s3, gq_s, wt_nil, wt_int, wt_long, wt_ref, wt_null, nl_int, nl_long, nl_ref, nl_null, nl_none, rf_n, rf_s, rf_st, tl_s, tl_n, g0, gS, ex1, nb_b, nb_0, nb_1, nf_i, nf_l, nf_ra, nf_ro, nf_na, nf_no, nf_b0, nf_z0, t45_4, t45_5, true_and, and_true, List.set_cons_zero, List.set_cons_succ, List.length_cons, List.length_nil, rd_s, upw_s, ne_eq, not_false_eq_true, Nat.zero_add, Nat.add_zero]
    repeat' first | with_reducible refine And.intro ?_ ?_ | omega
    exact h0 (by assumption)
  · simp only [eJx35411_hasNext_aae02_14, eJx35411_hasNext_aae02_15, eJx35411_hasNext_aae02_18, eJx35411_hasNext_aae02_19, ite_le, n45, n54, true_or, or_true, false_or, or_false, false_and, and_false, kx_l, kx_r, go_s, gl_s, gi_s, gb_s2, gb_s3, gq_s, wt_nil, wt_int, wt_long, wt_ref, wt_null, nl_int, nl_long, nl_ref, nl_null, nl_none, rf_n, rf_s, rf_st, tl_s, tl_n, g0, gS, ex1, nb_b, nb_0, nb_1, nf_i, nf_l, nf_ra, nf_ro, nf_na, nf_no, nf_b0, nf_z0, t45_4, t45_5, true_and, and_true, List.set_cons_zero, List.set_cons_succ, List.length_cons, List.length_nil, rd_s, upw_s, ne_eq, not_false_eq_true, Nat.zero_add, Nat.add_zero]
    repeat' first | with_reducible refine And.intro ?_ ?_ | omega
    exact h1 (by assumption)
set_option maxHeartbeats 4000000 in
theorem sJx35411_next_0502b {q L D cap : Nat} {c lr n mc : Int32} {h : Nat → Option Nat} (hq : w q = some (.inr (2, [.int c, .int lr, .int mc, .ref L]))) (hL : w L = some (.inr (3, [.int mc, .ref D, .int n]))) (rD : rd g w D = some (.inl (5, cap, qc h))) (k0 : 0 ≤ c.toInt) (k1 : c.toInt < n.toInt) (hn : n.toInt ≤ (cap : Int)) (hc : cap ≤ 15) (hN : h c.toNatClampNeg = none → Q (.inl (some .null)) (upw w q (.inr (2, [.int (c + 1), .int c, .int mc, .ref L])))) (hR : ∀ b, h c.toNatClampNeg = some b → Q (.inl (some (.ref b))) (upw w q (.inr (2, [.int (c + 1), .int c, .int mc, .ref L])))) : WP (MJx35411_next_0502b g) Q (0, [some (.ref q), none, none], [], w, 0, 0) := by
  have rq := rd_e (g := g) hq
  have rL := rd_e (g := g) hL
  have nL : L ≠ q := fun e => by
    rw [e, hq] at hL
    cases hL
  have nD : D ≠ q := fun e => by
    rw [e, rq] at rD
    cases rD
  have iv : vp_in c cap := vpiM k0 (by omega)
  have eN := ofNc (N := cap) (by omega)
  simp only [eJx35411_next_0502b_0, eJx35411_next_0502b_0N, eJx35411_next_0502b_1, eJx35411_next_0502b_4, eJx35411_next_0502b_4N, eJx35411_next_0502b_5, eJx35411_next_0502b_8, eJx35411_next_0502b_9, eJx35411_next_0502b_10, eJx35411_next_0502b_10N, eJx35411_next_0502b_11, eJx35411_next_0502b_14, eJx35411_next_0502b_17, eJx35411_next_0502b_23, eJx35411_next_0502b_23R, eJx35411_next_0502b_28, eJx35411_next_0502b_28N, eJx35411_next_0502b_29, eJx35411_next_0502b_32, eJx35411_next_0502b_35, eJx35411_next_0502b_35N, eJx35411_next_0502b_36, eJx35411_next_0502b_37, eJx35411_next_0502b_37N, eJx35411_next_0502b_38, eJx35411_next_0502b_39, eJx35411_next_0502b_45, eJx35411_next_0502b_45R, eJx35411_next_0502b_50, eJx35411_next_0502b_50N, eJx35411_next_0502b_51, eJx35411_next_0502b_52, eJx35411_next_0502b_53, eJx35411_next_0502b_54, eJx35411_next_0502b_57, eJx35411_next_0502b_57N, eJx35411_next_0502b_58, eJx35411_next_0502b_58N, eJx35411_next_0502b_59, eJx35411_next_0502b_60IR, eJx35411_next_0502b_60RR, eJx35411_next_0502b_61, eJx35411_next_0502b_64, eJx35411_next_0502b_65, eJx35411_next_0502b_65N, eJx35411_checkForComodification_da8c8_0, eJx35411_checkForComodification_da8c8_0N, eJx35411_checkForComodification_da8c8_1, eJx35411_checkForComodification_da8c8_4, eJx35411_checkForComodification_da8c8_7, eJx35411_checkForComodification_da8c8_7N, eJx35411_checkForComodification_da8c8_8, eJx35411_checkForComodification_da8c8_11, eJx35411_checkForComodification_da8c8_17, eJx35411_checkForComodification_da8c8_17R, eJx35411_checkForComodification_da8c8_22, ite_le, n45, n54, true_or, or_true, false_or, or_false, false_and, and_false, kx_l, kx_r, go_s, gl_s, gi_s, gb_s2, gb_s3, gq_s, wt_nil, wt_int, wt_long, wt_ref, wt_null, nl_int, nl_long, nl_ref, nl_null, nl_none, rf_n, rf_s, rf_st, tl_s, tl_n, g0, gS, ex1, nb_b, nb_0, nb_1, nf_i, nf_l, nf_ra, nf_ro, nf_na, nf_no, nf_b0, nf_z0, t45_4, t45_5, true_and, and_true, List.set_cons_zero, List.set_cons_succ, List.length_cons, List.length_nil, rd_s, upw_s, ne_eq, not_false_eq_true, Nat.zero_add, Nat.add_zero, if_true, if_false, eq_self, rq, hq, rL, rD, nL, nD, upw_n, rd_n, upw2q, exal2, al56, i32_t k1, i32_t (show c.toInt < (Int32.ofNat cap).toInt by omega)]
  repeat' first
    | with_reducible assumption
    | with_reducible refine And.intro ?_ ?_
    | with_reducible exact hN (by assumption)
    | with_reducible exact hR _ (by assumption)
    | simp only [eJx35411_next_0502b_65, eJx35411_next_0502b_65N, ite_le, n45, n54, true_or, or_true, false_or, or_false, false_and, and_false, kx_l, kx_r, go_s, gl_s, gi_s, gb_s2, gb_s3, gq_s, wt_nil, wt_int, wt_long, wt_ref, wt_null, nl_int, nl_long, nl_ref, nl_null, nl_none, rf_n, rf_s, rf_st, tl_s, tl_n, g0, gS, ex1, nb_b, nb_0, nb_1, nf_i, nf_l, nf_ra, nf_ro, nf_na, nf_no, nf_b0, nf_z0, t45_4, t45_5, true_and, and_true, List.set_cons_zero, List.set_cons_succ, List.length_cons, List.length_nil, rd_s, upw_s, ne_eq, not_false_eq_true, Nat.zero_add, Nat.add_zero, if_true, if_false, eq_self]
    | with_reducible intro _
    | omega
end
end
/-! 62.mod0.lean.txt -/
section
section
variable {g : RO} {Q : Ot → Hw → Prop} {w0 w : Hw}
def isMo : Ob → Bool
  | .inr (7, _) => true
  | .inr (3, _) => true
  | .inr (2, _) => true
  | .inl (5, _) => true
  | _ => false
/-- what the model leaves alone -/
def FM (g : RO) (nM : Nat) (w w' : Hw) : Prop := (∀ (a : Nat) (o : Ob), w a = some o → a ≠ nM → isMo o = false → w' a = some o) ∧ ∀ (a : Nat) (o : Ob), g.2 a = some o → w a = none → w' a = none
theorem FM.rf {nM : Nat} : FM g nM w w := ⟨fun _ _ h _ _ => h, fun _ _ _ h => h⟩
theorem FM.ext {nM : Nat} {w' : Hw} (h : FM g nM w0 w) (k : ext g w w') : FM g nM w0 w' := ⟨fun a o h1 h2 h3 => k.1 a o (h.1 a o h1 h2 h3), fun a o z1 z2 => k.2 a o z1 (h.2 a o z1 z2)⟩
theorem FM.tr {nM : Nat} {w' : Hw} (h : FM g nM w0 w) (k : FM g nM w w') : FM g nM w0 w' := ⟨fun a o h1 h2 h3 => k.1 a o (h.1 a o h1 h2 h3) h2 h3, fun a o z1 z2 => k.2 a o z1 (h.2 a o z1 z2)⟩
/-- the model's state: knocked is kd -/
def RMo (g : RO) (w : Hw) (y nM : Nat) (kd : Int32) : Prop := ∃ (cL pL D1 D2 c1 c2 : Nat) (th rf md n : Int32) (f : Nat → Int64) (h1 h2 : Nat → Option Nat), w y = some (.inr (7, [.int th, .ref nM, .ref cL, .ref pL, .int rf, .int kd, .int md])) ∧ w nM = some (.inl (0, 8, .inr (.inl f))) ∧ LL g w cL D1 c1 6 h1 ∧ (∀ i b, h1 i = some b → isRow w b) ∧ LL g w pL D2 c2 n h2 ∧ (∀ i b, h2 i = some b → isRow w b) ∧ n.toInt ≤ 12 ∧ cL ≠ pL ∧ D1 ≠ D2 ∧ ∀ i : Nat, (i : Int) < n.toInt → ∃ b, h2 i = some b
theorem LL.kp {w' : Hw} {L D cap : Nat} {n : Int32} {h : Nat → Option Nat} (hl : LL g w L D cap n h) (k1 : ∀ fs, w L = some (.inr (3, fs)) → w' L = some (.inr (3, fs))) (k2 : ∀ z, w D = some (.inl (5, z)) → w' D = some (.inl (5, z))) (k3 : ∀ o, g.2 D = some o → w D = none → w' D = none) : LL g w' L D cap n h := by
  obtain ⟨⟨mc, h1⟩, h2, h3, h4⟩ := hl
  refine ⟨⟨mc, k1 _ h1⟩, ?_, h3, h4⟩
  rcases h2 with ⟨h2, h5⟩ | ⟨h5, h6, h7, h8⟩
  · exact Or.inl ⟨k2 _ h2, h5⟩
  · exact Or.inr ⟨h5, h6, k3 _ h8 h7, h8⟩
theorem FC.ne {nA : Nat} {w' : Hw} {fA : Nat → Int64} {a : Nat} {o : Ob} (k : FC g nA w w') (hA : w nA = some (.inl (0, 8, .inr (.inl fA)))) (h : w a = some o) (ho : o ≠ .inl (0, 8, .inr (.inl fA))) (hc : isC o = false) : w' a = some o := k.1 a o h (by
  rintro rfl
  rw [hA] at h
  cases h
  exact ho rfl) hc
theorem FC.row {nA : Nat} {w' : Hw} {fA : Nat → Int64} {b : Nat} (k : FC g nA w w') (hA : w nA = some (.inl (0, 8, .inr (.inl fA)))) (h : isRow w b) : isRow w' b := by
  obtain ⟨f, h⟩ := h
  exact ⟨f, k.ne hA h (fun e => by cases e) rfl⟩
theorem RMo.FC {nA : Nat} {w' : Hw} {fA : Nat → Int64} {y nM : Nat} {kd : Int32} (h : RMo g w y nM kd) (k : FC g nA w w') (hA : w nA = some (.inl (0, 8, .inr (.inl fA)))) (hne : nM ≠ nA) : RMo g w' y nM kd := by
  obtain ⟨cL, pL, D1, D2, c1, c2, th, rf, md, n, f, h1, h2, a1, a2, a3, a4, a5, a6, a7⟩ := h
  have ll : ∀ {L D cap : Nat} {n : Int32} {h : Nat → Option Nat}, LL g w L D cap n h → LL g w' L D cap n h := fun hl => hl.kp (fun fs e => k.ne hA e (fun e => by cases e) rfl) (fun z e => k.ne hA e (fun e => by cases e) rfl) (fun o e1 e2 => k.2 _ o e1 e2)
  exact ⟨cL, pL, D1, D2, c1, c2, th, rf, md, n, f, h1, h2, k.ne hA a1 (fun e => by cases e) rfl, k.1 _ _ a2 hne rfl, ll a3, fun i b z => k.row hA (a4 i b z), ll a5, fun i b z => k.row hA (a6 i b z), a7⟩
theorem RC.FM {nM : Nat} {w' : Hw} {x nA cA lA : Nat} {kn : Int32} (h : RC w x nA cA lA kn) (k : FM g nM w w') (hM : ∃ f : Nat → Int64, w nM = some (.inl (0, 8, .inr (.inl f)))) (hne : nA ≠ nM) : RC w' x nA cA lA kn := by
  obtain ⟨fM, hM⟩ := hM
  have kk : ∀ (a : Nat) (o : Ob), w a = some o → o ≠ .inl (0, 8, .inr (.inl fM)) → isMo o = false → w' a = some o := fun a o h ho hc => k.1 a o h (by
    rintro rfl
    rw [hM] at h
    cases h
    exact ho rfl) hc
  have rr : ∀ b, isR w b → isR w' b := fun b hb => by
    obtain ⟨r0, r1, r2, r3, hb⟩ := hb
    exact ⟨r0, r1, r2, r3, kk _ _ hb (fun e => by cases e) rfl⟩
  obtain ⟨n, rf, md, f, gc, gl, h1, h2, h3, h4, h5, h6, h7⟩ := h
  exact ⟨n, rf, md, f, gc, gl, kk _ _ h1 (fun e => by cases e) rfl, k.1 _ _ h2 hne rfl, kk _ _ h3 (fun e => by cases e) rfl, kk _ _ h4 (fun e => by cases e) rfl, fun i b z => rr b (h5 i b z), fun i b z => rr b (h6 i b z), h7⟩
/-- the model's state at w, come from w0 -/
def MM (g : RO) (w0 : Hw) (y nM : Nat) (kd : Int32) (w : Hw) : Prop := RMo g w y nM kd ∧ FM g nM w0 w
theorem ne_of {a b : Nat} {o1 o2 : Ob} (h1 : w a = some o1) (h2 : w b = some o2) (h : o1 ≠ o2) : a ≠ b := fun e => by
  rw [e, h2] at h1
  cases h1
  exact h rfl
theorem LL.up {L D cap a : Nat} {n : Int32} {h : Nat → Option Nat} {o1 o2 : Ob} (hl : LL g w L D cap n h) (ha : w a = some o1) (h3 : ∀ fs, o1 ≠ .inr (3, fs)) (h5 : ∀ z, o1 ≠ .inl (5, z)) : LL g (upw w a o2) L D cap n h := hl.kp (fun fs e => by
    rw [upw_n (ne_of e ha (fun z => h3 fs z.symm))]
    exact e) (fun z e => by
    rw [upw_n (ne_of e ha (fun q => h5 z q.symm))]
    exact e) (fun o _ e => by
    rw [upw_n]
    · exact e
    · rintro rfl
      rw [ha] at e
      cases e)
theorem FM.up {nM a : Nat} {o1 o2 : Ob} (h : FM g nM w0 w) (ha : w a = some o1) (h2 : a = nM ∨ isMo o1 = true) : FM g nM w0 (upw w a o2) := by
  refine ⟨fun b o e1 e2 e3 => ?_, fun b o e1 e2 => ?_⟩
  · have e4 := h.1 b o e1 e2 e3
    rw [upw_n]
    · exact e4
    · rintro rfl
      rcases h2 with rfl | h2
      · exact e2 rfl
      · rw [ha] at e4
        cases e4
        rw [e3] at h2
        cases h2
  · have e4 := h.2 b o e1 e2
    rw [upw_n]
    · exact e4
    · rintro rfl
      rw [ha] at e4
      cases e4
/-- its own numbers set -/
theorem RMo.set {y nM cL pL : Nat} {kd kd' th' rf' md' th0 rf0 md0 : Int32} (h : RMo g w y nM kd) (hy : w y = some (.inr (7, [.int th0, .ref nM, .ref cL, .ref pL, .int rf0, .int kd, .int md0]))) : RMo g (upw w y (.inr (7, [.int th', .ref nM, .ref cL, .ref pL, .int rf', .int kd', .int md']))) y nM kd' := by
  obtain ⟨cL1, pL1, D1, D2, c1, c2, th, rf, md, n, f, h1, h2, a1, a2, a3, a4, a5, a6, a7⟩ := h
  rw [hy] at a1
  cases a1
  exact ⟨cL, pL, D1, D2, c1, c2, th', rf', md', n, f, h1, h2, upw_s _ _ _, by rw [upw_n (ne_of a2 hy (fun e => by cases e))]; exact a2, a3.up hy (fun _ e => by cases e) (fun _ e => by cases e), fun i b z => isRow_up (a4 i b z) hy (fun _ e => by cases e), a5.up hy (fun _ e => by cases e) (fun _ e => by cases e), fun i b z => isRow_up (a6 i b z) hy (fun _ e => by cases e), a7⟩
theorem RMo.num {y nM : Nat} {kd : Int32} {f f' : Nat → Int64} (h : RMo g w y nM kd) (hn : w nM = some (.inl (0, 8, .inr (.inl f)))) : RMo g (upw w nM (.inl (0, 8, .inr (.inl f')))) y nM kd := by
  obtain ⟨cL, pL, D1, D2, c1, c2, th, rf, md, n, f, h1, h2, a1, a2, a3, a4, a5, a6, a7⟩ := h
  exact ⟨cL, pL, D1, D2, c1, c2, th, rf, md, n, f', h1, h2, by rw [upw_n (ne_of a1 hn (fun e => by cases e))]; exact a1, upw_s _ _ _, a3.up hn (fun _ e => by cases e) (fun _ e => by cases e), fun i b z => isRow_up (a4 i b z) hn (fun _ e => by cases e), a5.up hn (fun _ e => by cases e) (fun _ e => by cases e), fun i b z => isRow_up (a6 i b z) hn (fun _ e => by cases e), a7⟩
theorem RMo.opn {y nM : Nat} {kd : Int32} (g : RO) (h : RMo g w y nM kd) : ∃ (cL pL D1 D2 c1 c2 : Nat) (th rf md n : Int32) (f : Nat → Int64) (h1 h2 : Nat → Option Nat), w y = some (.inr (7, [.int th, .ref nM, .ref cL, .ref pL, .int rf, .int kd, .int md])) ∧ w nM = some (.inl (0, 8, .inr (.inl f))) ∧ rd g w y = some (.inr (7, [.int th, .ref nM, .ref cL, .ref pL, .int rf, .int kd, .int md])) ∧ rd g w nM = some (.inl (0, 8, .inr (.inl f))) ∧ y ≠ nM ∧ nM ≠ y ∧ LL g w cL D1 c1 6 h1 ∧ (∀ i b, h1 i = some b → isRow w b) ∧ LL g w pL D2 c2 n h2 ∧ (∀ i b, h2 i = some b → isRow w b) ∧ n.toInt ≤ 12 ∧ cL ≠ pL ∧ D1 ≠ D2 ∧ ∀ i : Nat, (i : Int) < n.toInt → ∃ b, h2 i = some b := by
  obtain ⟨cL, pL, D1, D2, c1, c2, th, rf, md, n, f, h1, h2, a1, a2, a3, a4, a5, a6, a7⟩ := h
  have ne := ne_of a1 a2 (fun e => by cases e)
  exact ⟨cL, pL, D1, D2, c1, c2, th, rf, md, n, f, h1, h2, a1, a2, rd_e a1, rd_e a2, ne, ne.symm, a3, a4, a5, a6, a7⟩
theorem MM.set {y nM cL pL : Nat} {kd kd' th' rf' md' th0 rf0 md0 : Int32} (h : MM g w0 y nM kd w) (hy : w y = some (.inr (7, [.int th0, .ref nM, .ref cL, .ref pL, .int rf0, .int kd, .int md0]))) : MM g w0 y nM kd' (upw w y (.inr (7, [.int th', .ref nM, .ref cL, .ref pL, .int rf', .int kd', .int md']))) := ⟨h.1.set hy, h.2.up hy (Or.inr rfl)⟩
theorem MM.num {y nM : Nat} {kd : Int32} {f f' : Nat → Int64} (h : MM g w0 y nM kd w) (hn : w nM = some (.inl (0, 8, .inr (.inl f)))) : MM g w0 y nM kd (upw w nM (.inl (0, 8, .inr (.inl f')))) := ⟨h.1.num hn, h.2.up hn (Or.inl rfl)⟩
end
end
/-! 62.mod1.lean.txt -/
section
section
variable {g : RO} {Q : Ot → Hw → Prop} {w0 w : Hw}
variable {y nM : Nat} {kd : Int32}
set_option maxHeartbeats 4000000 in
theorem sX3_isIn {a b c : Int32} (h1 : ¬ a < b → ¬ c < a → Q (.inl (some (.int 1))) w) (h0 : Q (.inl (some (.int 0))) w) : WP (MX3_isIn g) Q (0, [some (.int a), some (.int b), some (.int c)], [], w, 0, 0) := by
  repeat' first
    | with_reducible assumption
    | with_reducible refine And.intro ?_ ?_
    | with_reducible exact h1 (by assumption) (by assumption)
    | simp only [eX3_isIn_0, eX3_isIn_1, eX3_isIn_2, eX3_isIn_5, eX3_isIn_6, eX3_isIn_7, eX3_isIn_10, eX3_isIn_11, eX3_isIn_14, eX3_isIn_15, ite_le, n45, n54, true_or, or_true, false_or, or_false, false_and, and_false, kx_l, kx_r, go_s, gl_s, gi_s, gb_s2, gb_s3, gq_s, wt_nil, wt_int, wt_long, wt_ref, wt_null, nl_int, nl_long, nl_ref, nl_null, nl_none, rf_n, rf_s, rf_st, tl_s, tl_n, g0, gS, ex1, nb_b, nb_0, nb_1, nf_i, nf_l, nf_ra, nf_ro, nf_na, nf_no, nf_b0, nf_z0, t45_4, t45_5, true_and, and_true, List.set_cons_zero, List.set_cons_succ, List.length_cons, List.length_nil, rd_s, upw_s, ne_eq, not_false_eq_true, Nat.zero_add, Nat.add_zero, if_true, if_false, eq_self]
    | split
    | with_reducible intro _
    | omega
theorem m10 : ((1 : Int32) = 0) = False := eq_false (by decide)
set_option maxHeartbeats 4000000 in
theorem sX3_isNoNumber {a : Int32} (h1 : Q (.inl (some (.int 1))) w) (h0 : ¬ a < 0 → ¬ 7 < a → Q (.inl (some (.int 0))) w) : WP (MX3_isNoNumber g) Q (0, [some (.int a)], [], w, 0, 0) := by
  repeat' first
    | with_reducible assumption
    | with_reducible refine And.intro ?_ ?_
    | with_reducible refine sX3_isIn (fun _ _ => ?_) ?_
    | with_reducible exact h0 (by assumption) (by assumption)
    | simp only [eX3_isNoNumber_0, eX3_isNoNumber_1, eX3_isNoNumber_2, eX3_isNoNumber_4, eX3_isNoNumber_7, eX3_isNoNumber_10, eX3_isNoNumber_11, eX3_isNoNumber_14, eX3_isNoNumber_15, ite_le, n45, n54, true_or, or_true, false_or, or_false, false_and, and_false, kx_l, kx_r, go_s, gl_s, gi_s, gb_s2, gb_s3, gq_s, wt_nil, wt_int, wt_long, wt_ref, wt_null, nl_int, nl_long, nl_ref, nl_null, nl_none, rf_n, rf_s, rf_st, tl_s, tl_n, g0, gS, ex1, nb_b, nb_0, nb_1, nf_i, nf_l, nf_ra, nf_ro, nf_na, nf_no, nf_b0, nf_z0, t45_4, t45_5, true_and, and_true, List.set_cons_zero, List.set_cons_succ, List.length_cons, List.length_nil, rd_s, upw_s, ne_eq, not_false_eq_true, Nat.zero_add, Nat.add_zero, if_true, if_false, eq_self, m10]
    | split
    | with_reducible intro _
    | omega
set_option maxHeartbeats 4000000 in
theorem sX3_isNoCard {a : Int32} (h1 : Q (.inl (some (.int 1))) w) (h0 : ¬ a < 0 → ¬ 5 < a → Q (.inl (some (.int 0))) w) : WP (MX3_isNoCard g) Q (0, [some (.int a)], [], w, 0, 0) := by
  repeat' first
    | with_reducible assumption
    | with_reducible refine And.intro ?_ ?_
    | with_reducible refine sX3_isIn (fun _ _ => ?_) ?_
    | with_reducible exact h0 (by assumption) (by assumption)
    | simp only [eX3_isNoCard_0, eX3_isNoCard_1, eX3_isNoCard_2, eX3_isNoCard_3, eX3_isNoCard_6, eX3_isNoCard_9, eX3_isNoCard_10, eX3_isNoCard_13, eX3_isNoCard_14, ite_le, n45, n54, true_or, or_true, false_or, or_false, false_and, and_false, kx_l, kx_r, go_s, gl_s, gi_s, gb_s2, gb_s3, gq_s, wt_nil, wt_int, wt_long, wt_ref, wt_null, nl_int, nl_long, nl_ref, nl_null, nl_none, rf_n, rf_s, rf_st, tl_s, tl_n, g0, gS, ex1, nb_b, nb_0, nb_1, nf_i, nf_l, nf_ra, nf_ro, nf_na, nf_no, nf_b0, nf_z0, t45_4, t45_5, true_and, and_true, List.set_cons_zero, List.set_cons_succ, List.length_cons, List.length_nil, rd_s, upw_s, ne_eq, not_false_eq_true, Nat.zero_add, Nat.add_zero, if_true, if_false, eq_self, m10]
    | split
    | with_reducible intro _
    | omega
set_option maxHeartbeats 4000000 in
theorem sX3_isNoEnd {a : Int32} (h1 : Q (.inl (some (.int 1))) w) (h0 : ¬ a < 0 → ¬ 3 < a → Q (.inl (some (.int 0))) w) : WP (MX3_isNoEnd g) Q (0, [some (.int a)], [], w, 0, 0) := by
  repeat' first
    | with_reducible assumption
    | with_reducible refine And.intro ?_ ?_
    | with_reducible refine sX3_isIn (fun _ _ => ?_) ?_
    | with_reducible exact h0 (by assumption) (by assumption)
    | simp only [eX3_isNoEnd_0, eX3_isNoEnd_1, eX3_isNoEnd_2, eX3_isNoEnd_3, eX3_isNoEnd_6, eX3_isNoEnd_9, eX3_isNoEnd_10, eX3_isNoEnd_13, eX3_isNoEnd_14, ite_le, n45, n54, true_or, or_true, false_or, or_false, false_and, and_false, kx_l, kx_r, go_s, gl_s, gi_s, gb_s2, gb_s3, gq_s, wt_nil, wt_int, wt_long, wt_ref, wt_null, nl_int, nl_long, nl_ref, nl_null, nl_none, rf_n, rf_s, rf_st, tl_s, tl_n, g0, gS, ex1, nb_b, nb_0, nb_1, nf_i, nf_l, nf_ra, nf_ro, nf_na, nf_no, nf_b0, nf_z0, t45_4, t45_5, true_and, and_true, List.set_cons_zero, List.set_cons_succ, List.length_cons, List.length_nil, rd_s, upw_s, ne_eq, not_false_eq_true, Nat.zero_add, Nat.add_zero, if_true, if_false, eq_self, m10]
    | split
    | with_reducible intro _
    | omega
/-- .. and thrown is 0 -/
def MMz (g : RO) (w0 : Hw) (y nM : Nat) (kd : Int32) (w : Hw) : Prop := MM g w0 y nM kd w ∧ ∃ (cL pL : Nat) (rf md : Int32), w y = some (.inr (7, [.int 0, .ref nM, .ref cL, .ref pL, .int rf, .int kd, .int md]))
set_option maxHeartbeats 4000000 in
theorem sX3_refuse {a c : Int32} (hZ : MMz g w0 y nM kd w) (hc : 0 < c) (h0 : a = 0 → Q (.inl (some (.int 0))) w) (h1 : ∀ w', MM g w0 y nM kd w' → Q (.inl (some (.int 1))) w') : WP (MX3_refuse g) Q (0, [some (.ref y), some (.int a), some (.int c)], [], w, 0, 0) := by
  obtain ⟨hM, cL, pL, rf, md, hy⟩ := hZ
  have ry := rd_e (g := g) hy
  have q1 : (c ≤ 0) = False := eq_false (fun h => absurd hc (Int32.not_lt.mpr h))
  have q2 : ((0 : Int32) ≤ 0) = True := eq_true (Int32.le_refl _)
  have q3 : ((0 : Int32) < 0) = False := eq_false (by decide)
  have q4 : (0 < c) = True := eq_true hc
  repeat' first
    | with_reducible assumption
    | with_reducible refine And.intro ?_ ?_
    | with_reducible exact h0 (by assumption)
    | with_reducible exact h1 _ (hM.set hy)
    | simp only [eX3_refuse_0, eX3_refuse_1, eX3_refuse_4, eX3_refuse_4N, eX3_refuse_5, eX3_refuse_8, eX3_refuse_11, eX3_refuse_11N, eX3_refuse_12, eX3_refuse_13, eX3_refuse_16, eX3_refuse_16N, eX3_refuse_17, eX3_refuse_20, eX3_refuse_23, eX3_refuse_24, eX3_refuse_27, eX3_refuse_28, ite_le, n45, n54, true_or, or_true, false_or, or_false, false_and, and_false, kx_l, kx_r, go_s, gl_s, gi_s, gb_s2, gb_s3, gq_s, wt_nil, wt_int, wt_long, wt_ref, wt_null, nl_int, nl_long, nl_ref, nl_null, nl_none, rf_n, rf_s, rf_st, tl_s, tl_n, g0, gS, ex1, nb_b, nb_0, nb_1, nf_i, nf_l, nf_ra, nf_ro, nf_na, nf_no, nf_b0, nf_z0, t45_4, t45_5, true_and, and_true, List.set_cons_zero, List.set_cons_succ, List.length_cons, List.length_nil, rd_s, upw_s, ne_eq, not_false_eq_true, Nat.zero_add, Nat.add_zero, if_true, if_false, eq_self, hy, ry, q1, q2, q3, q4]
    | split
    | with_reducible intro _
    | omega
set_option maxHeartbeats 4000000 in
theorem sX3_start {a c : Int32} (hM : MM g w0 y nM kd w) (hc : 0 < c) (h0 : a = 0 → ∀ w', MMz g w0 y nM kd w' → Q (.inl (some (.int 0))) w') (h1 : ∀ w', MM g w0 y nM kd w' → Q (.inl (some (.int 1))) w') : WP (MX3_start g) Q (0, [some (.ref y), some (.int a), some (.int c)], [], w, 0, 0) := by
  obtain ⟨cL, pL, D1, D2, c1, c2, th, rf, md, n, f, hh1, hh2, hy, hn, ry, rn, e1, e2, -⟩ := hM.1.opn g
  have hz : MMz g w0 y nM kd (upw w y (.inr (7, [.int 0, .ref nM, .ref cL, .ref pL, .int rf, .int kd, .int md]))) := ⟨hM.set hy, cL, pL, rf, md, upw_s _ _ _⟩
  repeat' first
    | with_reducible assumption
    | with_reducible refine And.intro ?_ ?_
    | with_reducible refine sX3_refuse hz hc (fun _ => ?_) (fun _ _ => ?_)
    | with_reducible exact h0 (by assumption) _ hz
    | with_reducible exact h1 _ (by assumption)
    | simp only [eX3_start_0, eX3_start_0N, eX3_start_1, eX3_start_2, eX3_start_5, eX3_start_5N, eX3_start_6, eX3_start_7, eX3_start_8, eX3_start_11, ite_le, n45, n54, true_or, or_true, false_or, or_false, false_and, and_false, kx_l, kx_r, go_s, gl_s, gi_s, gb_s2, gb_s3, gq_s, wt_nil, wt_int, wt_long, wt_ref, wt_null, nl_int, nl_long, nl_ref, nl_null, nl_none, rf_n, rf_s, rf_st, tl_s, tl_n, g0, gS, ex1, nb_b, nb_0, nb_1, nf_i, nf_l, nf_ra, nf_ro, nf_na, nf_no, nf_b0, nf_z0, t45_4, t45_5, true_and, and_true, List.set_cons_zero, List.set_cons_succ, List.length_cons, List.length_nil, rd_s, upw_s, ne_eq, not_false_eq_true, Nat.zero_add, Nat.add_zero, if_true, if_false, eq_self, hy, ry]
    | split
    | with_reducible intro _
    | omega
set_option maxHeartbeats 4000000 in
theorem sX3_no  (hM : MM g w0 y nM kd w) (hQ : ∀ w', MM g w0 y nM kd w' → Q (.inl (some (.int (-9)))) w') : WP (MX3_no g) Q (0, [some (.ref y)], [], w, 0, 0) := by
  obtain ⟨cL, pL, D1, D2, c1, c2, th, rf, md, n, f, hh1, hh2, hy, hn, ry, rn, e1, e2, -⟩ := hM.1.opn g
  repeat' first
    | with_reducible assumption
    | with_reducible refine And.intro ?_ ?_
    | with_reducible exact hQ _ (hM.set hy)
    | simp only [eX3_no_0, eX3_no_0N, eX3_no_1, eX3_no_1R, eX3_no_2, eX3_no_5, eX3_no_6, eX3_no_7, eX3_no_10, eX3_no_12, ite_le, n45, n54, true_or, or_true, false_or, or_false, false_and, and_false, kx_l, kx_r, go_s, gl_s, gi_s, gb_s2, gb_s3, gq_s, wt_nil, wt_int, wt_long, wt_ref, wt_null, nl_int, nl_long, nl_ref, nl_null, nl_none, rf_n, rf_s, rf_st, tl_s, tl_n, g0, gS, ex1, nb_b, nb_0, nb_1, nf_i, nf_l, nf_ra, nf_ro, nf_na, nf_no, nf_b0, nf_z0, t45_4, t45_5, true_and, and_true, List.set_cons_zero, List.set_cons_succ, List.length_cons, List.length_nil, rd_s, upw_s, ne_eq, not_false_eq_true, Nat.zero_add, Nat.add_zero, if_true, if_false, eq_self, hy, ry, upw2q]
    | split
    | with_reducible intro _
    | omega
end
end
/-! 62.mod2.lean.txt -/
section
section
variable {g : RO} {Q : Ot → Hw → Prop} {w0 w : Hw}
variable {y nM : Nat} {kd : Int32}
theorem MMz.m (h : MMz g w0 y nM kd w) : MM g w0 y nM kd w := h.1
theorem go_M {K : List Value → Prop} (h : MM g w0 y nM kd w) (k : ∀ (cL pL : Nat) (th rf md : Int32), K [.int th, .ref nM, .ref cL, .ref pL, .int rf, .int kd, .int md]) : go (rd g w y) 7 K := by
  obtain ⟨cL, pL, D1, D2, c1, c2, th, rf, md, n, f, h1, h2, hy, hn, ry, rn, -⟩ := h.1.opn g
  rw [ry, go_s]
  exact k _ _ _ _ _
theorem gl_M {K : Nat → (Nat → Int64) → Prop} (h : MM g w0 y nM kd w) (k : ∀ f, K 8 f) : gl (rd g w nM) 0 K := by
  obtain ⟨cL, pL, D1, D2, c1, c2, th, rf, md, n, f, h1, h2, hy, hn, ry, rn, -⟩ := h.1.opn g
  rw [rn, gl_s]
  exact k _
theorem gl_Mw {K : Nat → (Nat → Int64) → Prop} (h : MM g w0 y nM kd w) (k : ∀ f, (∀ f', MM g w0 y nM kd (upw w nM (.inl (0, 8, .inr (.inl f'))))) → K 8 f) : gl (w nM) 0 K := by
  obtain ⟨cL, pL, D1, D2, c1, c2, th, rf, md, n, f, h1, h2, hy, hn, ry, rn, -⟩ := h.1.opn g
  rw [hn, gl_s]
  exact k _ (fun _ => h.num hn)
theorem vpi8n {a : Int32} (h0 : ¬ a < 0) (h1 : ¬ 7 < a) : vp_in a 8 := vpiM (i32_0 h0) (by
  have h := i32_nlt h1
  have e : (7 : Int32).toInt = 7 := rfl
  omega)
theorem vpi6n {a : Int32} (h0 : ¬ a < 0) (h1 : ¬ 5 < a) : vp_in a 6 := vpiM (i32_0 h0) (by
  have h := i32_nlt h1
  have e : (5 : Int32).toInt = 5 := rfl
  omega)
theorem ite_cs {c : Prop} [Decidable c] {A B : Prop} (h1 : A) (h2 : B) : if c then A else B := by split <;> assumption
theorem n4g : (¬ (4294967296 : Int64) = 0) := by decide
theorem n4a : ¬ (4 : Int32) < 0 := by decide
theorem n4b : (4 : Int32).toNatClampNeg ≤ 40000 := by decide
theorem n4c : (4 : Int32).toNatClampNeg ≤ 4 := by decide
theorem n10' : ¬ (1 : Int32) = 0 := by decide
set_option maxHeartbeats 4000000 in
theorem sX3_high {a : Int64} (hQ : ∀ v : Int32, Q (.inl (some (.int v))) w) : WP (MX3_high g) Q (0, [some (.long a), none], [], w, 0, 0) := by
  repeat' first
    | with_reducible assumption
    | with_reducible refine And.intro ?_ ?_
    | with_reducible exact hQ _
    | with_reducible exact n4g
    | with_reducible refine ite_cs ?_ ?_
    | simp only [eX3_high_0, eX3_high_1, eX3_high_2, eX3_high_5, eX3_high_6, eX3_high_9, eX3_high_10, eX3_high_13, eX3_high_14, eX3_high_15, eX3_high_18, eX3_high_19, eX3_high_20, ite_le, n45, n54, true_or, or_true, false_or, or_false, false_and, and_false, kx_l, kx_r, go_s, gl_s, gi_s, gb_s2, gb_s3, gq_s, wt_nil, wt_int, wt_long, wt_ref, wt_null, nl_int, nl_long, nl_ref, nl_null, nl_none, rf_n, rf_s, rf_st, tl_s, tl_n, g0, gS, ex1, nb_b, nb_0, nb_1, nf_i, nf_l, nf_ra, nf_ro, nf_na, nf_no, nf_b0, nf_z0, t45_4, t45_5, true_and, and_true, List.set_cons_zero, List.set_cons_succ, List.length_cons, List.length_nil, rd_s, upw_s, ne_eq, not_false_eq_true, Nat.zero_add, Nat.add_zero, if_true, if_false, eq_self]
    | split
    | with_reducible intro _
    | omega
set_option maxHeartbeats 4000000 in
theorem sX3_low {a : Int64} (hQ : ∀ v : Int32, Q (.inl (some (.int v))) w) : WP (MX3_low g) Q (0, [some (.long a), none, none, none], [], w, 0, 0) := by
  repeat' first
    | with_reducible assumption
    | with_reducible refine And.intro ?_ ?_
    | with_reducible exact hQ _
    | with_reducible exact n4g
    | with_reducible refine ite_cs ?_ ?_
    | simp only [eX3_low_0, eX3_low_1, eX3_low_4, eX3_low_5, eX3_low_8, eX3_low_9, eX3_low_12, eX3_low_13, eX3_low_14, eX3_low_15, eX3_low_18, eX3_low_19, eX3_low_22, eX3_low_23, eX3_low_26, eX3_low_27, eX3_low_30, eX3_low_31, eX3_low_32, ite_le, n45, n54, true_or, or_true, false_or, or_false, false_and, and_false, kx_l, kx_r, go_s, gl_s, gi_s, gb_s2, gb_s3, gq_s, wt_nil, wt_int, wt_long, wt_ref, wt_null, nl_int, nl_long, nl_ref, nl_null, nl_none, rf_n, rf_s, rf_st, tl_s, tl_n, g0, gS, ex1, nb_b, nb_0, nb_1, nf_i, nf_l, nf_ra, nf_ro, nf_na, nf_no, nf_b0, nf_z0, t45_4, t45_5, true_and, and_true, List.set_cons_zero, List.set_cons_succ, List.length_cons, List.length_nil, rd_s, upw_s, ne_eq, not_false_eq_true, Nat.zero_add, Nat.add_zero, if_true, if_false, eq_self]
    | split
    | with_reducible intro _
    | omega
set_option maxHeartbeats 4000000 in
theorem sX3_one {a : Int32} (hQ : ∀ v : Int32, Q (.inl (some (.int v))) w) : WP (MX3_one g) Q (0, [some (.int a)], [], w, 0, 0) := by
  repeat' first
    | with_reducible assumption
    | with_reducible refine And.intro ?_ ?_
    | with_reducible exact hQ _
    | with_reducible exact n4g
    | with_reducible refine ite_cs ?_ ?_
    | simp only [eX3_one_0, eX3_one_1, eX3_one_4, eX3_one_5, eX3_one_8, eX3_one_9, ite_le, n45, n54, true_or, or_true, false_or, or_false, false_and, and_false, kx_l, kx_r, go_s, gl_s, gi_s, gb_s2, gb_s3, gq_s, wt_nil, wt_int, wt_long, wt_ref, wt_null, nl_int, nl_long, nl_ref, nl_null, nl_none, rf_n, rf_s, rf_st, tl_s, tl_n, g0, gS, ex1, nb_b, nb_0, nb_1, nf_i, nf_l, nf_ra, nf_ro, nf_na, nf_no, nf_b0, nf_z0, t45_4, t45_5, true_and, and_true, List.set_cons_zero, List.set_cons_succ, List.length_cons, List.length_nil, rd_s, upw_s, ne_eq, not_false_eq_true, Nat.zero_add, Nat.add_zero, if_true, if_false, eq_self]
    | split
    | with_reducible intro _
    | omega
set_option maxHeartbeats 4000000 in
theorem sX3_become {a : Int32} {b : Int64} (hM : MM g w0 y nM kd w) (k0 : ¬ a < 0) (k1 : ¬ 7 < a) (hQ : ∀ (v : Int32) w', MM g w0 y nM kd w' → Q (.inl (some (.int v))) w') : WP (MX3_become g) Q (0, [some (.ref y), some (.int a), some (.long b), none], [], w, 0, 0) := by
  repeat' first
    | with_reducible assumption
    | with_reducible refine And.intro ?_ ?_
    | with_reducible exact absurd (by assumption) n10'
    | with_reducible refine sX3_isNoNumber ?_ (fun _ _ => ?_)
    | with_reducible refine sX3_isNoEnd ?_ (fun _ _ => ?_)
    | with_reducible refine sX3_isIn (fun _ _ => ?_) ?_
    | with_reducible refine sX3_start (by first | assumption | exact MMz.m (by assumption) | exact (by assumption : ∀ f', MM g w0 y nM kd (upw _ nM (.inl (0, 8, .inr (.inl f'))))) _) (by decide) (fun _ _ _ => ?_) (fun _ _ => ?_)
    | with_reducible refine sX3_refuse (by assumption) (by decide) (fun _ => ?_) (fun _ _ => ?_)
    | with_reducible exact vpi8n (by assumption) (by assumption)
    | with_reducible refine go_M (by first | assumption | exact MMz.m (by assumption) | exact (by assumption : ∀ f', MM g w0 y nM kd (upw _ nM (.inl (0, 8, .inr (.inl f'))))) _) ?_
    | with_reducible refine gl_M (by first | assumption | exact MMz.m (by assumption) | exact (by assumption : ∀ f', MM g w0 y nM kd (upw _ nM (.inl (0, 8, .inr (.inl f'))))) _) ?_
    | with_reducible refine gl_Mw (by first | assumption | exact MMz.m (by assumption) | exact (by assumption : ∀ f', MM g w0 y nM kd (upw _ nM (.inl (0, 8, .inr (.inl f'))))) _) ?_
    | with_reducible exact hQ _ _ (by first | assumption | exact MMz.m (by assumption) | exact (by assumption : ∀ f', MM g w0 y nM kd (upw _ nM (.inl (0, 8, .inr (.inl f'))))) _)
    | with_reducible exact hQ _
    | with_reducible exact n4g
    | with_reducible exact n4a
    | with_reducible exact n4b
    | with_reducible exact n4c
    | with_reducible refine sX3_high (fun _ => ?_)
    | with_reducible refine sX3_low (fun _ => ?_)
    | with_reducible refine sX3_one (fun _ => ?_)
    | simp only [eX3_become_0, eX3_become_0N, eX3_become_1, eX3_become_4, eX3_become_5, eX3_become_6, eX3_become_7, eX3_become_8, eX3_become_11, ite_le, n45, n54, true_or, or_true, false_or, or_false, false_and, and_false, kx_l, kx_r, go_s, gl_s, gi_s, gb_s2, gb_s3, gq_s, wt_nil, wt_int, wt_long, wt_ref, wt_null, nl_int, nl_long, nl_ref, nl_null, nl_none, rf_n, rf_s, rf_st, tl_s, tl_n, g0, gS, ex1, nb_b, nb_0, nb_1, nf_i, nf_l, nf_ra, nf_ro, nf_na, nf_no, nf_b0, nf_z0, t45_4, t45_5, true_and, and_true, List.set_cons_zero, List.set_cons_succ, List.length_cons, List.length_nil, rd_s, upw_s, ne_eq, not_false_eq_true, Nat.zero_add, Nat.add_zero, if_true, if_false, eq_self]
    | split
    | with_reducible intro _
    | omega
end
end
/-! 62.mod3.lean.txt -/
section
section
variable {g : RO} {Q : Ot → Hw → Prop} {w0 w : Hw}
variable {y nM : Nat} {kd : Int32}
theorem vpi4 : vp_in 0 4 ∧ vp_in 1 4 ∧ vp_in 2 4 ∧ vp_in 3 4 := ⟨vpiM (by decide) (by decide), vpiM (by decide) (by decide), vpiM (by decide) (by decide), vpiM (by decide) (by decide)⟩
theorem MM.ext' {w' : Hw} (h : MM g w0 y nM kd w) (k : ext g w w') : MM g w0 y nM kd w' := by
  obtain ⟨cL, pL, D1, D2, c1, c2, th, rf, md, n, f, h1, h2, a1, a2, a3, a4, a5, a6, a7⟩ := h.1
  have ll : ∀ {L D cap : Nat} {n : Int32} {h : Nat → Option Nat}, LL g w L D cap n h → LL g w' L D cap n h := fun hl => hl.kp (fun fs e => k.1 _ _ e) (fun z e => k.1 _ _ e) (fun o e1 e2 => k.2 _ o e1 e2)
  exact ⟨⟨cL, pL, D1, D2, c1, c2, th, rf, md, n, f, h1, h2, k.1 _ _ a1, k.1 _ _ a2, ll a3, fun i b z => (a4 i b z).ext k, ll a5, fun i b z => (a6 i b z).ext k, a7⟩, h.2.ext k⟩
theorem MM.fr {q : Nat} {o : Ob} (h : MM g w0 y nM kd w) (hq : rd g w q = none) : MM g w0 y nM kd (upw w q o) := h.ext' (ext_up2 ext.rf hq)
set_option maxHeartbeats 4000000 in
theorem sX3_areInOrder {a b c d : Int64} (h1 : Q (.inl (some (.int 1))) w) (h0 : Q (.inl (some (.int 0))) w) : WP (MX3_areInOrder g) Q (0, [some (.long a), none, some (.long b), none, some (.long c), none, some (.long d), none], [], w, 0, 0) := by
  repeat' first
    | with_reducible assumption
    | with_reducible refine And.intro ?_ ?_
    | simp only [eX3_areInOrder_0, eX3_areInOrder_1, eX3_areInOrder_2, eX3_areInOrder_3, eX3_areInOrder_6, eX3_areInOrder_8, eX3_areInOrder_10, eX3_areInOrder_11, eX3_areInOrder_14, eX3_areInOrder_15, eX3_areInOrder_17, eX3_areInOrder_18, eX3_areInOrder_21, eX3_areInOrder_22, eX3_areInOrder_24, eX3_areInOrder_25, eX3_areInOrder_28, eX3_areInOrder_29, eX3_areInOrder_32, eX3_areInOrder_33, ite_le, n45, n54, true_or, or_true, false_or, or_false, false_and, and_false, kx_l, kx_r, go_s, gl_s, gi_s, gb_s2, gb_s3, gq_s, wt_nil, wt_int, wt_long, wt_ref, wt_null, nl_int, nl_long, nl_ref, nl_null, nl_none, rf_n, rf_s, rf_st, tl_s, tl_n, g0, gS, ex1, nb_b, nb_0, nb_1, nf_i, nf_l, nf_ra, nf_ro, nf_na, nf_no, nf_b0, nf_z0, t45_4, t45_5, true_and, and_true, List.set_cons_zero, List.set_cons_succ, List.length_cons, List.length_nil, rd_s, upw_s, ne_eq, not_false_eq_true, Nat.zero_add, Nat.add_zero, if_true, if_false, eq_self]
    | split
    | with_reducible intro _
    | omega
set_option maxHeartbeats 4000000 in
theorem sX3_fixed {p : Nat} (hp : isRow w p) (h1 : Q (.inl (some (.int 1))) w) (h0 : Q (.inl (some (.int 0))) w) : WP (MX3_fixed g) Q (0, [some (.ref p)], [], w, 0, 0) := by
  repeat' first
    | with_reducible assumption
    | with_reducible refine And.intro ?_ ?_
    | with_reducible refine gl_Row (by assumption) (fun _ => ?_)
    | with_reducible exact vpi4.1
    | with_reducible exact vpi4.2.1
    | with_reducible exact vpi4.2.2.1
    | with_reducible exact vpi4.2.2.2
    | simp only [eX3_fixed_0, eX3_fixed_0N, eX3_fixed_1, eX3_fixed_2, eX3_fixed_3, eX3_fixed_3N, eX3_fixed_4, eX3_fixed_5, eX3_fixed_6, eX3_fixed_7, eX3_fixed_10, eX3_fixed_10N, eX3_fixed_11, eX3_fixed_12, eX3_fixed_13, eX3_fixed_13N, eX3_fixed_14, eX3_fixed_15, eX3_fixed_16, eX3_fixed_17, eX3_fixed_20, eX3_fixed_21, eX3_fixed_24, eX3_fixed_25, ite_le, n45, n54, true_or, or_true, false_or, or_false, false_and, and_false, kx_l, kx_r, go_s, gl_s, gi_s, gb_s2, gb_s3, gq_s, wt_nil, wt_int, wt_long, wt_ref, wt_null, nl_int, nl_long, nl_ref, nl_null, nl_none, rf_n, rf_s, rf_st, tl_s, tl_n, g0, gS, ex1, nb_b, nb_0, nb_1, nf_i, nf_l, nf_ra, nf_ro, nf_na, nf_no, nf_b0, nf_z0, t45_4, t45_5, true_and, and_true, List.set_cons_zero, List.set_cons_succ, List.length_cons, List.length_nil, rd_s, upw_s, ne_eq, not_false_eq_true, Nat.zero_add, Nat.add_zero, if_true, if_false, eq_self]
    | split
    | with_reducible intro _
    | omega
set_option maxHeartbeats 4000000 in
theorem sX3_small {p : Nat} (hp : isRow w p) (h1 : Q (.inl (some (.int 1))) w) (h0 : Q (.inl (some (.int 0))) w) : WP (MX3_small g) Q (0, [some (.ref p)], [], w, 0, 0) := by
  repeat' first
    | with_reducible assumption
    | with_reducible refine And.intro ?_ ?_
    | with_reducible refine gl_Row (by assumption) (fun _ => ?_)
    | with_reducible exact vpi4.1
    | with_reducible exact vpi4.2.1
    | with_reducible exact vpi4.2.2.1
    | with_reducible exact vpi4.2.2.2
    | simp only [eX3_small_0, eX3_small_0N, eX3_small_1, eX3_small_2, eX3_small_3, eX3_small_6, eX3_small_7, eX3_small_10, eX3_small_10N, eX3_small_11, eX3_small_12, eX3_small_13, eX3_small_16, eX3_small_17, eX3_small_20, eX3_small_21, eX3_small_24, eX3_small_25, ite_le, n45, n54, true_or, or_true, false_or, or_false, false_and, and_false, kx_l, kx_r, go_s, gl_s, gi_s, gb_s2, gb_s3, gq_s, wt_nil, wt_int, wt_long, wt_ref, wt_null, nl_int, nl_long, nl_ref, nl_null, nl_none, rf_n, rf_s, rf_st, tl_s, tl_n, g0, gS, ex1, nb_b, nb_0, nb_1, nf_i, nf_l, nf_ra, nf_ro, nf_na, nf_no, nf_b0, nf_z0, t45_4, t45_5, true_and, and_true, List.set_cons_zero, List.set_cons_succ, List.length_cons, List.length_nil, rd_s, upw_s, ne_eq, not_false_eq_true, Nat.zero_add, Nat.add_zero, if_true, if_false, eq_self]
    | split
    | with_reducible intro _
    | omega
set_option maxHeartbeats 4000000 in
theorem sX3_valid {p : Nat} {a : Int64} {b : Int32} (hp : isRow w p) (h1 : Q (.inl (some (.int 1))) w) (h0 : Q (.inl (some (.int 0))) w) : WP (MX3_valid g) Q (0, [some (.ref p), some (.long a), none, some (.int b)], [], w, 0, 0) := by
  repeat' first
    | with_reducible assumption
    | with_reducible refine And.intro ?_ ?_
    | with_reducible refine gl_Row (by assumption) (fun _ => ?_)
    | with_reducible exact vpi4.1
    | with_reducible exact vpi4.2.1
    | with_reducible exact vpi4.2.2.1
    | with_reducible exact vpi4.2.2.2
    | with_reducible refine sX3_small (by assumption) ?_ ?_
    | simp only [eX3_valid_0, eX3_valid_1, eX3_valid_1N, eX3_valid_2, eX3_valid_3, eX3_valid_4, eX3_valid_5, eX3_valid_8, eX3_valid_9, eX3_valid_9N, eX3_valid_10, eX3_valid_11, eX3_valid_12, eX3_valid_13, eX3_valid_16, eX3_valid_17, eX3_valid_20, eX3_valid_20N, eX3_valid_21R, eX3_valid_21N, eX3_valid_24, eX3_valid_27, eX3_valid_28, eX3_valid_31, eX3_valid_32, ite_le, n45, n54, true_or, or_true, false_or, or_false, false_and, and_false, kx_l, kx_r, go_s, gl_s, gi_s, gb_s2, gb_s3, gq_s, wt_nil, wt_int, wt_long, wt_ref, wt_null, nl_int, nl_long, nl_ref, nl_null, nl_none, rf_n, rf_s, rf_st, tl_s, tl_n, g0, gS, ex1, nb_b, nb_0, nb_1, nf_i, nf_l, nf_ra, nf_ro, nf_na, nf_no, nf_b0, nf_z0, t45_4, t45_5, true_and, and_true, List.set_cons_zero, List.set_cons_succ, List.length_cons, List.length_nil, rd_s, upw_s, ne_eq, not_false_eq_true, Nat.zero_add, Nat.add_zero, if_true, if_false, eq_self]
    | split
    | with_reducible intro _
    | omega
set_option maxHeartbeats 4000000 in
theorem sX3_add {a b : Int64} (hQ : ∀ v : Int64, Q (.inl (some (.long v))) w) : WP (MX3_add g) Q (0, [some (.long a), none, some (.long b), none], [], w, 0, 0) := by
  repeat' first
    | with_reducible assumption
    | with_reducible refine And.intro ?_ ?_
    | with_reducible exact hQ _
    | simp only [eX3_add_0, eX3_add_1, eX3_add_4, eX3_add_5, eX3_add_6, eX3_add_7, ite_le, n45, n54, true_or, or_true, false_or, or_false, false_and, and_false, kx_l, kx_r, go_s, gl_s, gi_s, gb_s2, gb_s3, gq_s, wt_nil, wt_int, wt_long, wt_ref, wt_null, nl_int, nl_long, nl_ref, nl_null, nl_none, rf_n, rf_s, rf_st, tl_s, tl_n, g0, gS, ex1, nb_b, nb_0, nb_1, nf_i, nf_l, nf_ra, nf_ro, nf_na, nf_no, nf_b0, nf_z0, t45_4, t45_5, true_and, and_true, List.set_cons_zero, List.set_cons_succ, List.length_cons, List.length_nil, rd_s, upw_s, ne_eq, not_false_eq_true, Nat.zero_add, Nat.add_zero, if_true, if_false, eq_self]
    | split
    | with_reducible intro _
    | omega
set_option maxHeartbeats 4000000 in
theorem sX3_whichNow {p : Nat} {a : Int32} (hp : isRow w p) (hQ : ∀ v : Int32, Q (.inl (some (.int v))) w) : WP (MX3_whichNow g) Q (0, [some (.ref p), some (.int a)], [], w, 0, 0) := by
  repeat' first
    | with_reducible assumption
    | with_reducible refine And.intro ?_ ?_
    | with_reducible refine gl_Row (by assumption) (fun _ => ?_)
    | with_reducible exact vpi4.1
    | with_reducible exact vpi4.2.1
    | with_reducible exact vpi4.2.2.1
    | with_reducible exact vpi4.2.2.2
    | with_reducible refine sX3_valid (by assumption) ?_ ?_
    | with_reducible refine sX3_one (fun _ => ?_)
    | with_reducible exact hQ _
    | simp only [eX3_whichNow_0, eX3_whichNow_0N, eX3_whichNow_1, eX3_whichNow_2, eX3_whichNow_3, eX3_whichNow_4R, eX3_whichNow_4N, eX3_whichNow_7, eX3_whichNow_10, eX3_whichNow_10N, eX3_whichNow_11, eX3_whichNow_12, eX3_whichNow_13, eX3_whichNow_14R, eX3_whichNow_14N, eX3_whichNow_17, eX3_whichNow_20, eX3_whichNow_21, ite_le, n45, n54, true_or, or_true, false_or, or_false, false_and, and_false, kx_l, kx_r, go_s, gl_s, gi_s, gb_s2, gb_s3, gq_s, wt_nil, wt_int, wt_long, wt_ref, wt_null, nl_int, nl_long, nl_ref, nl_null, nl_none, rf_n, rf_s, rf_st, tl_s, tl_n, g0, gS, ex1, nb_b, nb_0, nb_1, nf_i, nf_l, nf_ra, nf_ro, nf_na, nf_no, nf_b0, nf_z0, t45_4, t45_5, true_and, and_true, List.set_cons_zero, List.set_cons_succ, List.length_cons, List.length_nil, rd_s, upw_s, ne_eq, not_false_eq_true, Nat.zero_add, Nat.add_zero, if_true, if_false, eq_self]
    | split
    | with_reducible intro _
    | omega
end
end
/-! 62.mod4.lean.txt -/
section
section
variable {g : RO} {Q : Ot → Hw → Prop} {w0 w : Hw}
variable {y nM : Nat} {kd : Int32}
/-- place i of the cards: v -/
def CAt (g : RO) (w : Hw) (y : Nat) (i : Int32) (v : Option Nat) : Prop := ∃ (nM cL pL D c : Nat) (th rf kd md : Int32) (h : Nat → Option Nat), w y = some (.inr (7, [.int th, .ref nM, .ref cL, .ref pL, .int rf, .int kd, .int md])) ∧ LL g w cL D c 6 h ∧ (∀ i b, h i = some b → isRow w b) ∧ h i.toNatClampNeg = v
theorem CAt.ofM {i : Int32} (h : MM g w0 y nM kd w) : ∃ v, CAt g w y i v := by
  obtain ⟨cL, pL, D1, D2, c1, c2, th, rf, md, n, f, h1, h2, a1, a2, a3, a4, a5, a6, a7⟩ := h.1
  exact ⟨_, nM, cL, pL, D1, c1, th, rf, kd, md, h1, a1, a3, a4, rfl⟩
/-- it stands where the object's numbers are set -/
theorem CAt.set {i : Int32} {v : Option Nat} {nM' cL pL : Nat} {th rf md th' rf' md' kd' : Int32} (h : CAt g w y i v) (hy : w y = some (.inr (7, [.int th, .ref nM', .ref cL, .ref pL, .int rf, .int kd, .int md]))) : CAt g (upw w y (.inr (7, [.int th', .ref nM', .ref cL, .ref pL, .int rf', .int kd', .int md']))) y i v := by
  obtain ⟨nM1, cL1, pL1, D, c, th1, rf1, kd1, md1, hh, a1, a2, a3, a4⟩ := h
  rw [hy] at a1
  cases a1
  exact ⟨_, _, _, D, c, _, _, _, _, hh, upw_s _ _ _, a2.up hy (fun _ e => by cases e) (fun _ e => by cases e), fun i b z => isRow_up (a3 i b z) hy (fun _ e => by cases e), a4⟩
theorem CAt.fr {i : Int32} {v : Option Nat} {q : Nat} {o : Ob} (h : CAt g w y i v) (hq : rd g w q = none) : CAt g (upw w q o) y i v := by
  obtain ⟨nM1, cL1, pL1, D, c, th1, rf1, kd1, md1, hh, a1, a2, a3, a4⟩ := h
  have k : ext g w (upw w q o) := ext_up2 ext.rf hq
  exact ⟨_, _, _, D, c, _, _, _, _, hh, k.1 _ _ a1, a2.kp (fun fs e => k.1 _ _ e) (fun z e => k.1 _ _ e) (fun o e1 e2 => k.2 _ o e1 e2), fun i b z => (a3 i b z).ext k, a4⟩
theorem CAt.row {i : Int32} {b : Nat} (h : CAt g w y i (some b)) : isRow w b := by
  obtain ⟨nM1, cL1, pL1, D, c, th1, rf1, kd1, md1, hh, a1, a2, a3, a4⟩ := h
  exact a3 _ _ a4
theorem lt6 {a : Int32} (h1 : ¬ 5 < a) : a.toInt < (6 : Int32).toInt := by
  have h := i32_nlt h1
  have e : (5 : Int32).toInt = 5 := rfl
  have e6 : (6 : Int32).toInt = 6 := rfl
  omega
set_option maxHeartbeats 4000000 in
theorem sX3_isBare {a : Int32} {v : Option Nat} (hC : CAt g w y a v) (k0 : ¬ a < 0) (k1 : ¬ 5 < a) (h1 : v = none → Q (.inl (some (.int 1))) w) (h0 : ∀ b, v = some b → Q (.inl (some (.int 0))) w) : WP (MX3_isBare g) Q (0, [some (.ref y), some (.int a)], [], w, 0, 0) := by
  obtain ⟨nM1, cL1, pL1, D, c, th1, rf1, kd1, md1, hh, a1, a2, a3, a4⟩ := hC
  have ry := rd_e (g := g) a1
  obtain ⟨mc, hL, rL, rD, -⟩ := a2.opn
  subst a4
  simp only [eX3_isBare_0, eX3_isBare_0N, eX3_isBare_1, eX3_isBare_4, eX3_isBare_5, ite_le, n45, n54, true_or, or_true, false_or, or_false, false_and, and_false, kx_l, kx_r, go_s, gl_s, gi_s, gb_s2, gb_s3, gq_s, wt_nil, wt_int, wt_long, wt_ref, wt_null, nl_int, nl_long, nl_ref, nl_null, nl_none, rf_n, rf_s, rf_st, tl_s, tl_n, g0, gS, ex1, nb_b, nb_0, nb_1, nf_i, nf_l, nf_ra, nf_ro, nf_na, nf_no, nf_b0, nf_z0, t45_4, t45_5, true_and, and_true, List.set_cons_zero, List.set_cons_succ, List.length_cons, List.length_nil, rd_s, upw_s, ne_eq, not_false_eq_true, Nat.zero_add, Nat.add_zero, ry, rL]
  repeat' first | with_reducible refine And.intro ?_ ?_ | omega
  refine sJx4a65c_get a2 (i32_0 k0) (lt6 k1) (fun e => ?_) (fun b e => ?_)
  · simp only [eX3_isBare_0, eX3_isBare_0N, eX3_isBare_1, eX3_isBare_4, eX3_isBare_5, eX3_isBare_8R, eX3_isBare_8N, eX3_isBare_11, eX3_isBare_12, eX3_isBare_15, eX3_isBare_16, ite_le, n45, n54, true_or, or_true, false_or, or_false, false_and, and_false, kx_l, kx_r, go_s, gl_s, gi_s, gb_s2, gb_s3, gq_s, wt_nil, wt_int, wt_long, wt_ref, wt_null, nl_int, nl_long, nl_ref, nl_null, nl_none, rf_n, rf_s, rf_st, tl_s, tl_n, g0, gS, ex1, nb_b, nb_0, nb_1, nf_i, nf_l, nf_ra, nf_ro, nf_na, nf_no, nf_b0, nf_z0, t45_4, t45_5, true_and, and_true, List.set_cons_zero, List.set_cons_succ, List.length_cons, List.length_nil, rd_s, upw_s, ne_eq, not_false_eq_true, Nat.zero_add, Nat.add_zero, if_true, if_false, eq_self]
    repeat' first | with_reducible refine And.intro ?_ ?_ | omega
    exact h1 e
  · simp only [eX3_isBare_0, eX3_isBare_0N, eX3_isBare_1, eX3_isBare_4, eX3_isBare_5, eX3_isBare_8R, eX3_isBare_8N, eX3_isBare_11, eX3_isBare_12, eX3_isBare_15, eX3_isBare_16, ite_le, n45, n54, true_or, or_true, false_or, or_false, false_and, and_false, kx_l, kx_r, go_s, gl_s, gi_s, gb_s2, gb_s3, gq_s, wt_nil, wt_int, wt_long, wt_ref, wt_null, nl_int, nl_long, nl_ref, nl_null, nl_none, rf_n, rf_s, rf_st, tl_s, tl_n, g0, gS, ex1, nb_b, nb_0, nb_1, nf_i, nf_l, nf_ra, nf_ro, nf_na, nf_no, nf_b0, nf_z0, t45_4, t45_5, true_and, and_true, List.set_cons_zero, List.set_cons_succ, List.length_cons, List.length_nil, rd_s, upw_s, ne_eq, not_false_eq_true, Nat.zero_add, Nat.add_zero, if_true, if_false, eq_self]
    repeat' first | with_reducible refine And.intro ?_ ?_ | omega
    exact h0 b e
end
end
/-! 62.mod5.lean.txt -/
section
section
variable {g : RO} {Q : Ot → Hw → Prop} {w0 w : Hw}
variable {y nM : Nat} {kd : Int32}
theorem sX3_isBareM {a : Int32} (hM : MM g w0 y nM kd w) (k0 : ¬ a < 0) (k1 : ¬ 5 < a) (h1 : Q (.inl (some (.int 1))) w) (h0 : ∀ b, CAt g w y a (some b) → Q (.inl (some (.int 0))) w) : WP (MX3_isBare g) Q (0, [some (.ref y), some (.int a)], [], w, 0, 0) := by
  obtain ⟨v, hv⟩ := CAt.ofM (i := a) hM
  exact sX3_isBare hv k0 k1 (fun _ => h1) (fun b e => h0 b (e ▸ hv))
set_option maxHeartbeats 4000000 in
theorem sX3_isNone {a : Int32} (hM : MM g w0 y nM kd w) (h1 : ∀ w', MM g w0 y nM kd w' → Q (.inl (some (.int 1))) w') (h0 : ∀ b w', MM g w0 y nM kd w' → ¬ a < 0 → ¬ 5 < a → CAt g w' y a (some b) → Q (.inl (some (.int 0))) w') : WP (MX3_isNone g) Q (0, [some (.ref y), some (.int a)], [], w, 0, 0) := by
  repeat' first
    | with_reducible assumption
    | with_reducible refine And.intro ?_ ?_
    | with_reducible exact absurd (by assumption) n10'
    | with_reducible refine sX3_isNoNumber ?_ (fun _ _ => ?_)
    | with_reducible refine sX3_isNoEnd ?_ (fun _ _ => ?_)
    | with_reducible refine sX3_isIn (fun _ _ => ?_) ?_
    | with_reducible refine sX3_start (by first | assumption | exact MMz.m (by assumption) | exact (by assumption : ∀ f', MM g w0 y nM kd (upw _ nM (.inl (0, 8, .inr (.inl f'))))) _) (by decide) (fun _ _ _ => ?_) (fun _ _ => ?_)
    | with_reducible refine sX3_refuse (by assumption) (by decide) (fun _ => ?_) (fun _ _ => ?_)
    | with_reducible exact vpi8n (by assumption) (by assumption)
    | with_reducible refine go_M (by first | assumption | exact MMz.m (by assumption) | exact (by assumption : ∀ f', MM g w0 y nM kd (upw _ nM (.inl (0, 8, .inr (.inl f'))))) _) ?_
    | with_reducible refine gl_M (by first | assumption | exact MMz.m (by assumption) | exact (by assumption : ∀ f', MM g w0 y nM kd (upw _ nM (.inl (0, 8, .inr (.inl f'))))) _) ?_
    | with_reducible refine gl_Mw (by first | assumption | exact MMz.m (by assumption) | exact (by assumption : ∀ f', MM g w0 y nM kd (upw _ nM (.inl (0, 8, .inr (.inl f'))))) _) ?_
    | with_reducible exact hQ _ _ (by first | assumption | exact MMz.m (by assumption) | exact (by assumption : ∀ f', MM g w0 y nM kd (upw _ nM (.inl (0, 8, .inr (.inl f'))))) _)
    | with_reducible exact hQ _
    | with_reducible exact n4g
    | with_reducible exact n4a
    | with_reducible exact n4b
    | with_reducible exact n4c
    | with_reducible refine sX3_high (fun _ => ?_)
    | with_reducible refine sX3_low (fun _ => ?_)
    | with_reducible refine sX3_one (fun _ => ?_)
    | with_reducible refine sX3_become (by first | assumption | exact MMz.m (by assumption) | exact (by assumption : ∀ f', MM g w0 y nM kd (upw _ nM (.inl (0, 8, .inr (.inl f'))))) _) (by assumption) (by assumption) (fun _ _ _ => ?_)
    | with_reducible refine sX3_isNoCard ?_ (fun _ _ => ?_)
    | with_reducible refine sX3_isBareM (by first | assumption | exact MMz.m (by assumption) | exact (by assumption : ∀ f', MM g w0 y nM kd (upw _ nM (.inl (0, 8, .inr (.inl f'))))) _) (by assumption) (by assumption) ?_ (fun _ _ => ?_)
    | with_reducible exact h0 _ _ (by first | assumption | exact MMz.m (by assumption) | exact (by assumption : ∀ f', MM g w0 y nM kd (upw _ nM (.inl (0, 8, .inr (.inl f'))))) _) (by assumption) (by assumption) (by assumption)
    | with_reducible exact h1 _ (by first | assumption | exact MMz.m (by assumption) | exact (by assumption : ∀ f', MM g w0 y nM kd (upw _ nM (.inl (0, 8, .inr (.inl f'))))) _)
    | simp only [eX3_isNone_0, eX3_isNone_0N, eX3_isNone_1, eX3_isNone_2, eX3_isNone_5, eX3_isNone_6, eX3_isNone_9, eX3_isNone_12, eX3_isNone_12N, eX3_isNone_13, eX3_isNone_13N, eX3_isNone_14, eX3_isNone_15, eX3_isNone_18, eX3_isNone_19, eX3_isNone_22, eX3_isNone_25, eX3_isNone_26, eX3_isNone_29, eX3_isNone_30, ite_le, n45, n54, true_or, or_true, false_or, or_false, false_and, and_false, kx_l, kx_r, go_s, gl_s, gi_s, gb_s2, gb_s3, gq_s, wt_nil, wt_int, wt_long, wt_ref, wt_null, nl_int, nl_long, nl_ref, nl_null, nl_none, rf_n, rf_s, rf_st, tl_s, tl_n, g0, gS, ex1, nb_b, nb_0, nb_1, nf_i, nf_l, nf_ra, nf_ro, nf_na, nf_no, nf_b0, nf_z0, t45_4, t45_5, true_and, and_true, List.set_cons_zero, List.set_cons_succ, List.length_cons, List.length_nil, rd_s, upw_s, ne_eq, not_false_eq_true, Nat.zero_add, Nat.add_zero, if_true, if_false, eq_self, m10]
    | split
    | with_reducible intro _
    | omega
end
end
/-! 62.mod6.lean.txt -/
section
section
variable {g : RO} {Q : Ot → Hw → Prop} {w0 w : Hw}
variable {y nM : Nat} {kd : Int32}
theorem sGetC {L D cap b : Nat} {i : Int32} {h : Nat → Option Nat} (hl : LL g w L D cap 6 h) (hv : h i.toNatClampNeg = some b) (k0 : ¬ i < 0) (k1 : ¬ 5 < i) (hQ : Q (.inl (some (.ref b))) w) : WP (MJx4a65c_get_915e3 g) Q (0, [some (.ref L), some (.int i)], [], w, 0, 0) := sJx4a65c_get hl (i32_0 k0) (lt6 k1) (fun e => by
  rw [hv] at e
  cases e) (fun c e => by
  rw [hv] at e
  cases e
  exact hQ)
theorem LL.gt {L D cap : Nat} {n : Int32} {h : Nat → Option Nat} (hl : LL g w L D cap n h) : go (rd g w L) 3 fun _ => True := by
  obtain ⟨mc, hL, rL, -⟩ := hl.opn
  rw [rL, go_s]
  trivial
theorem isRow.ca {b : Nat} (h : isRow w b) : ∃ x, w b = some (.inl (0, x)) := by
  obtain ⟨f, h⟩ := h
  exact ⟨_, h⟩
end
end
/-! 62.mod8.lean.txt -/
section
section
variable {g : RO} {Q : Ot → Hw → Prop} {w0 w : Hw}
variable {y nM : Nat} {kd : Int32}
/-- the object's parts -/
def isY (w : Hw) (y nM cL pL : Nat) : Prop := ∃ th rf kd md : Int32, w y = some (.inr (7, [.int th, .ref nM, .ref cL, .ref pL, .int rf, .int kd, .int md]))
theorem isY.ext {cL pL : Nat} {w' : Hw} (h : isY w y nM cL pL) (k : ext g w w') : isY w' y nM cL pL := by
  obtain ⟨a, b, c, d, h⟩ := h
  exact ⟨a, b, c, d, k.1 _ _ h⟩
theorem isY.s {cL pL : Nat} {th rf kd0 md : Int32} : isY (upw w y (.inr (7, [.int th, .ref nM, .ref cL, .ref pL, .int rf, .int kd0, .int md]))) y nM cL pL := ⟨_, _, _, _, upw_s _ _ _⟩
theorem isY.fr {cL pL q : Nat} {o : Ob} (h : isY w y nM cL pL) (hq : rd g w q = none) : isY (upw w q o) y nM cL pL := h.ext (ext_up2 ext.rf hq)
theorem isY.un {cL pL nM' cL' pL' : Nat} (h : isY w y nM cL pL) (k : isY w y nM' cL' pL') : nM' = nM ∧ cL' = cL ∧ pL' = pL := by
  obtain ⟨a, b, c, d, h⟩ := h
  obtain ⟨a', b', c', d', k⟩ := k
  rw [h] at k
  cases k
  exact ⟨rfl, rfl, rfl⟩
theorem go_Y {K : List Value → Prop} (h : MM g w0 y nM kd w) (k : ∀ (cL pL : Nat) (th rf md : Int32), isY w y nM cL pL → K [.int th, .ref nM, .ref cL, .ref pL, .int rf, .int kd, .int md]) : go (rd g w y) 7 K := by
  obtain ⟨cL, pL, D1, D2, c1, c2, th, rf, md, n, f, h1, h2, hy, hn, ry, rn, -⟩ := h.1.opn g
  rw [ry, go_s]
  exact k _ _ _ _ _ ⟨_, _, _, _, hy⟩
theorem go_Yw {K : List Value → Prop} (h : MM g w0 y nM kd w) (k : ∀ (cL pL : Nat) (th rf md : Int32), (∀ (th' rf' md' : Int32), MM g w0 y nM kd (upw w y (.inr (7, [.int th', .ref nM, .ref cL, .ref pL, .int rf', .int kd, .int md'])))) → K [.int th, .ref nM, .ref cL, .ref pL, .int rf, .int kd, .int md]) : go (w y) 7 K := by
  obtain ⟨cL, pL, D1, D2, c1, c2, th, rf, md, n, f, h1, h2, hy, hn, ry, rn, -⟩ := h.1.opn g
  rw [hy, go_s]
  exact k _ _ _ _ _ (fun _ _ _ => h.set hy)
theorem MM.yC {cL pL : Nat} (h : MM g w0 y nM kd w) (hY : isY w y nM cL pL) : ∃ (D1 D2 c1 c2 : Nat) (th rf md n : Int32) (f : Nat → Int64) (h1 h2 : Nat → Option Nat), w y = some (.inr (7, [.int th, .ref nM, .ref cL, .ref pL, .int rf, .int kd, .int md])) ∧ w nM = some (.inl (0, 8, .inr (.inl f))) ∧ LL g w cL D1 c1 6 h1 ∧ (∀ i b, h1 i = some b → isRow w b) ∧ LL g w pL D2 c2 n h2 ∧ (∀ i b, h2 i = some b → isRow w b) ∧ n.toInt ≤ 12 ∧ cL ≠ pL ∧ D1 ≠ D2 ∧ (∀ i : Nat, (i : Int) < n.toInt → ∃ b, h2 i = some b) ∧ w D1 = some (.inl (5, c1, qc h1)) ∧ (c1 = 10 ∨ c1 = 15) := by
  obtain ⟨cL1, pL1, D1, D2, c1, c2, th, rf, md, n, f, h1, h2, a1, a2, a3, a4, a5, a6, a7, a8, a9, b1⟩ := h.1
  obtain ⟨-, e1, e2⟩ := hY.un ⟨_, _, _, _, a1⟩
  subst e1 e2
  refine ⟨D1, D2, c1, c2, th, rf, md, n, f, h1, h2, a1, a2, a3, a4, a5, a6, a7, a8, a9, b1, ?_⟩
  rcases a3.2.1 with k | ⟨k, -⟩
  · exact k
  · have k2 := a3.2.2.2
    have e6 : (6 : Int32).toInt = 6 := rfl
    omega
theorem gtC {cL pL : Nat} (h : MM g w0 y nM kd w) (hY : isY w y nM cL pL) : go (rd g w cL) 3 fun _ => True := by
  obtain ⟨D1, D2, c1, c2, th, rf, md, n, f, h1, h2, a1, a2, a3, a4, a5, -⟩ := h.yC hY
  exact a3.gt
theorem gtP {cL pL : Nat} (h : MM g w0 y nM kd w) (hY : isY w y nM cL pL) : go (rd g w pL) 3 fun _ => True := by
  obtain ⟨D1, D2, c1, c2, th, rf, md, n, f, h1, h2, a1, a2, a3, a4, a5, -⟩ := h.yC hY
  exact a5.gt
theorem sGetY {cL pL b : Nat} {i : Int32} (hC : CAt g w y i (some b)) (hY : isY w y nM cL pL) (k0 : ¬ i < 0) (k1 : ¬ 5 < i) (hQ : Q (.inl (some (.ref b))) w) : WP (MJx4a65c_get_915e3 g) Q (0, [some (.ref cL), some (.int i)], [], w, 0, 0) := by
  obtain ⟨nM1, cL1, pL1, D, c, th1, rf1, kd1, md1, hh, a1, a2, a3, a4⟩ := hC
  obtain ⟨-, e1, e2⟩ := hY.un ⟨_, _, _, _, a1⟩
  subst e1 e2
  exact sGetC a2 a4 k0 k1 hQ
/-- the cards' array written -/
theorem MM.crd {cL pL D1 D2 c1 c2 : Nat} {th rf md n : Int32} {f : Nat → Int64} {h1 h2 h' : Nat → Option Nat} (h : MM g w0 y nM kd w) (a1 : w y = some (.inr (7, [.int th, .ref nM, .ref cL, .ref pL, .int rf, .int kd, .int md]))) (a2 : w nM = some (.inl (0, 8, .inr (.inl f)))) (a3 : LL g w cL D1 c1 6 h1) (a5 : LL g w pL D2 c2 n h2) (a6 : ∀ i b, h2 i = some b → isRow w b) (a7 : n.toInt ≤ 12) (a8 : cL ≠ pL) (a9 : D1 ≠ D2) (b1 : ∀ i : Nat, (i : Int) < n.toInt → ∃ b, h2 i = some b) (hD : w D1 = some (.inl (5, c1, qc h1))) (hc : c1 = 10 ∨ c1 = 15) (hr : ∀ i b, h' i = some b → isRow w b) : MM g w0 y nM kd (upw w D1 (.inl (5, c1, qc h'))) := by
  obtain ⟨⟨mc, hL⟩, -, h3, h4⟩ := a3
  refine ⟨⟨cL, pL, D1, D2, c1, c2, th, rf, md, n, f, h', h2, ?_, ?_, ⟨⟨mc, ?_⟩, Or.inl ⟨upw_s _ _ _, hc⟩, h3, h4⟩, fun i b z => isRow_up (hr i b z) hD (fun _ e => by cases e), ?_, fun i b z => isRow_up (a6 i b z) hD (fun _ e => by cases e), a7, a8, a9, b1⟩, h.2.up hD (Or.inr rfl)⟩
  · rw [upw_n (ne_of a1 hD (fun e => by cases e))]
    exact a1
  · rw [upw_n (ne_of a2 hD (fun e => by cases e))]
    exact a2
  · rw [upw_n (ne_of hL hD (fun e => by cases e))]
    exact hL
  · refine a5.kp (fun fs e => ?_) (fun z e => ?_) (fun o _ e => ?_)
    · rw [upw_n (ne_of e hD (fun e => by cases e))]
      exact e
    · rw [upw_n (Ne.symm a9)]
      exact e
    · rw [upw_n (Ne.symm a9)]
      exact e
theorem sSetYR {cL pL b : Nat} {i : Int32} (hM : MM g w0 y nM kd w) (hY : isY w y nM cL pL) (hb : isRow w b) (k0 : ¬ i < 0) (k1 : ¬ 5 < i) (hN : ∀ w', MM g w0 y nM kd w' → Q (.inl (some .null)) w') (hR : ∀ b0 w', MM g w0 y nM kd w' → Q (.inl (some (.ref b0))) w') : WP (MJx4a65c_set_bcc79 g) Q (0, [some (.ref cL), some (.int i), some (.ref b), none], [], w, 0, 0) := by
  obtain ⟨D1, D2, c1, c2, th, rf, md, n, f, h1, h2, a1, a2, a3, a4, a5, a6, a7, a8, a9, b1, hD, hc⟩ := hM.yC hY
  have hX := hM.crd a1 a2 a3 a5 a6 a7 a8 a9 b1 hD hc (h' := va_up h1 i.toNatClampNeg (some b)) (va_up_row a4 (fun b0 e => by
    cases e
    exact hb))
  exact sJx4a65c_setR hb a3 hD (i32_0 k0) (lt6 k1) (fun _ => hN _ hX) (fun b0 _ => hR b0 _ hX)
theorem sSetYN {cL pL : Nat} {i : Int32} (hM : MM g w0 y nM kd w) (hY : isY w y nM cL pL) (k0 : ¬ i < 0) (k1 : ¬ 5 < i) (hN : ∀ w', MM g w0 y nM kd w' → Q (.inl (some .null)) w') (hR : ∀ b0 w', MM g w0 y nM kd w' → Q (.inl (some (.ref b0))) w') : WP (MJx4a65c_set_bcc79 g) Q (0, [some (.ref cL), some (.int i), some .null, none], [], w, 0, 0) := by
  obtain ⟨D1, D2, c1, c2, th, rf, md, n, f, h1, h2, a1, a2, a3, a4, a5, a6, a7, a8, a9, b1, hD, hc⟩ := hM.yC hY
  have hX := hM.crd a1 a2 a3 a5 a6 a7 a8 a9 b1 hD hc (h' := va_up h1 i.toNatClampNeg none) (va_up_row a4 (fun b0 e => by cases e))
  exact sJx4a65c_setN a3 hD (i32_0 k0) (lt6 k1) (fun _ => hN _ hX) (fun b0 _ => hR b0 _ hX)
theorem n4e : (4 : Int32).toNatClampNeg = 4 := rfl
theorem vpi4n {a : Int32} (h0 : ¬ a < 0) (h1 : ¬ 3 < a) : vp_in a 4 := vpiM (i32_0 h0) (by
  have h := i32_nlt h1
  have e : (3 : Int32).toInt = 3 := rfl
  omega)
theorem isRow.nw {q : Nat} {f : Nat → Int64} : isRow (upw w q (.inl (0, 4, .inr (.inl f)))) q := ⟨f, upw_s _ _ _⟩
end
end
/-! 62.mod9.lean.txt -/
section
section
variable {g : RO} {Q : Ot → Hw → Prop} {w0 w : Hw}
variable {y nM : Nat} {kd : Int32}
set_option maxHeartbeats 4000000 in
theorem sX3_make {a : Int32} {p q r s : Int64} (hM : MM g w0 y nM kd w) (k0 : ¬ a < 0) (k1 : ¬ 5 < a) (hQ : ∀ (v : Int32) w', MM g w0 y nM kd w' → Q (.inl (some (.int v))) w') : WP (MX3_make g) Q (0, [some (.ref y), some (.int a), some (.long p), none, some (.long q), none, some (.long r), none, some (.long s), none], [], w, 0, 0) := by
  repeat' first
    | with_reducible assumption
    | with_reducible refine And.intro ?_ ?_
    | with_reducible refine sX3_areInOrder ?_ ?_
    | with_reducible refine sSetYR (by first | assumption | exact MMz.m (by assumption) | exact MM.fr (by first | assumption | exact MMz.m (by assumption)) (by assumption) | exact MM.ext' (by assumption) (by assumption) | exact (by assumption : ∀ f', MM g w0 y nM kd (upw _ nM (.inl (0, 8, .inr (.inl f'))))) _ | exact (by assumption : ∀ (th' rf' md' : Int32), MM g w0 y nM kd (upw _ y (.inr (7, [.int th', .ref nM, .ref _, .ref _, .int rf', .int kd, .int md'])))) _ _ _) (by first | assumption | exact isY.s | exact isY.fr (by assumption) (by assumption)) isRow.nw (by assumption) (by assumption) (fun _ _ => ?_) (fun _ _ _ => ?_)
    | with_reducible exact absurd (by assumption) n10'
    | with_reducible refine sX3_isNoNumber ?_ (fun _ _ => ?_)
    | with_reducible refine sX3_isNoCard ?_ (fun _ _ => ?_)
    | with_reducible refine sX3_isNoEnd ?_ (fun _ _ => ?_)
    | with_reducible refine sX3_isIn (fun _ _ => ?_) ?_
    | with_reducible refine sX3_start (by first | assumption | exact MMz.m (by assumption) | exact MM.fr (by first | assumption | exact MMz.m (by assumption)) (by assumption) | exact MM.ext' (by assumption) (by assumption) | exact (by assumption : ∀ f', MM g w0 y nM kd (upw _ nM (.inl (0, 8, .inr (.inl f'))))) _ | exact (by assumption : ∀ (th' rf' md' : Int32), MM g w0 y nM kd (upw _ y (.inr (7, [.int th', .ref nM, .ref _, .ref _, .int rf', .int kd, .int md'])))) _ _ _) (by decide) (fun _ _ _ => ?_) (fun _ _ => ?_)
    | with_reducible refine sX3_refuse (by assumption) (by decide) (fun _ => ?_) (fun _ _ => ?_)
    | with_reducible refine sX3_isBareM (by first | assumption | exact MMz.m (by assumption) | exact MM.fr (by first | assumption | exact MMz.m (by assumption)) (by assumption) | exact MM.ext' (by assumption) (by assumption) | exact (by assumption : ∀ f', MM g w0 y nM kd (upw _ nM (.inl (0, 8, .inr (.inl f'))))) _ | exact (by assumption : ∀ (th' rf' md' : Int32), MM g w0 y nM kd (upw _ y (.inr (7, [.int th', .ref nM, .ref _, .ref _, .int rf', .int kd, .int md'])))) _ _ _) (by assumption) (by assumption) ?_ (fun _ _ => ?_)
    | with_reducible refine sX3_isNone (by first | assumption | exact MMz.m (by assumption) | exact MM.fr (by first | assumption | exact MMz.m (by assumption)) (by assumption) | exact MM.ext' (by assumption) (by assumption) | exact (by assumption : ∀ f', MM g w0 y nM kd (upw _ nM (.inl (0, 8, .inr (.inl f'))))) _ | exact (by assumption : ∀ (th' rf' md' : Int32), MM g w0 y nM kd (upw _ y (.inr (7, [.int th', .ref nM, .ref _, .ref _, .int rf', .int kd, .int md'])))) _ _ _) (fun _ _ => ?_) (fun _ _ _ _ _ _ => ?_)
    | with_reducible exact vpi8n (by assumption) (by assumption)
    | with_reducible exact vpi4n (by assumption) (by assumption)
    | with_reducible exact vpi4.1
    | with_reducible exact vpi4.2.1
    | with_reducible exact vpi4.2.2.1
    | with_reducible exact vpi4.2.2.2
    | with_reducible refine go_Y (by first | assumption | exact MMz.m (by assumption) | exact MM.fr (by first | assumption | exact MMz.m (by assumption)) (by assumption) | exact MM.ext' (by assumption) (by assumption) | exact (by assumption : ∀ f', MM g w0 y nM kd (upw _ nM (.inl (0, 8, .inr (.inl f'))))) _ | exact (by assumption : ∀ (th' rf' md' : Int32), MM g w0 y nM kd (upw _ y (.inr (7, [.int th', .ref nM, .ref _, .ref _, .int rf', .int kd, .int md'])))) _ _ _) (fun _ _ _ _ _ _ => ?_)
    | with_reducible refine go_Yw (by first | assumption | exact MMz.m (by assumption) | exact MM.fr (by first | assumption | exact MMz.m (by assumption)) (by assumption) | exact MM.ext' (by assumption) (by assumption) | exact (by assumption : ∀ f', MM g w0 y nM kd (upw _ nM (.inl (0, 8, .inr (.inl f'))))) _ | exact (by assumption : ∀ (th' rf' md' : Int32), MM g w0 y nM kd (upw _ y (.inr (7, [.int th', .ref nM, .ref _, .ref _, .int rf', .int kd, .int md'])))) _ _ _) (fun _ _ _ _ _ _ => ?_)
    | with_reducible refine gl_M (by first | assumption | exact MMz.m (by assumption) | exact MM.fr (by first | assumption | exact MMz.m (by assumption)) (by assumption) | exact MM.ext' (by assumption) (by assumption) | exact (by assumption : ∀ f', MM g w0 y nM kd (upw _ nM (.inl (0, 8, .inr (.inl f'))))) _ | exact (by assumption : ∀ (th' rf' md' : Int32), MM g w0 y nM kd (upw _ y (.inr (7, [.int th', .ref nM, .ref _, .ref _, .int rf', .int kd, .int md'])))) _ _ _) ?_
    | with_reducible refine gl_Mw (by first | assumption | exact MMz.m (by assumption) | exact MM.fr (by first | assumption | exact MMz.m (by assumption)) (by assumption) | exact MM.ext' (by assumption) (by assumption) | exact (by assumption : ∀ f', MM g w0 y nM kd (upw _ nM (.inl (0, 8, .inr (.inl f'))))) _ | exact (by assumption : ∀ (th' rf' md' : Int32), MM g w0 y nM kd (upw _ y (.inr (7, [.int th', .ref nM, .ref _, .ref _, .int rf', .int kd, .int md'])))) _ _ _) ?_
    | with_reducible exact gtC (by first | assumption | exact MMz.m (by assumption) | exact MM.fr (by first | assumption | exact MMz.m (by assumption)) (by assumption) | exact MM.ext' (by assumption) (by assumption) | exact (by assumption : ∀ f', MM g w0 y nM kd (upw _ nM (.inl (0, 8, .inr (.inl f'))))) _ | exact (by assumption : ∀ (th' rf' md' : Int32), MM g w0 y nM kd (upw _ y (.inr (7, [.int th', .ref nM, .ref _, .ref _, .int rf', .int kd, .int md'])))) _ _ _) (by first | assumption | exact isY.s | exact isY.fr (by assumption) (by assumption))
    | with_reducible exact gtP (by first | assumption | exact MMz.m (by assumption) | exact MM.fr (by first | assumption | exact MMz.m (by assumption)) (by assumption) | exact MM.ext' (by assumption) (by assumption) | exact (by assumption : ∀ f', MM g w0 y nM kd (upw _ nM (.inl (0, 8, .inr (.inl f'))))) _ | exact (by assumption : ∀ (th' rf' md' : Int32), MM g w0 y nM kd (upw _ y (.inr (7, [.int th', .ref nM, .ref _, .ref _, .int rf', .int kd, .int md'])))) _ _ _) (by first | assumption | exact isY.s | exact isY.fr (by assumption) (by assumption))
    | with_reducible refine gl_Row (by first | assumption | exact CAt.row (by assumption) | exact isRow.ext (by assumption) (by assumption)) (fun _ => ?_)
    | with_reducible exact isRow.ca (by first | assumption | exact CAt.row (by assumption) | exact isRow.ext (by assumption) (by assumption))
    | with_reducible refine sGetY (by assumption) (by first | assumption | exact isY.s | exact isY.fr (by assumption) (by assumption)) (by assumption) (by assumption) ?_
    | with_reducible exact hQ _ _ (by first | assumption | exact MMz.m (by assumption) | exact MM.fr (by first | assumption | exact MMz.m (by assumption)) (by assumption) | exact MM.ext' (by assumption) (by assumption) | exact (by assumption : ∀ f', MM g w0 y nM kd (upw _ nM (.inl (0, 8, .inr (.inl f'))))) _ | exact (by assumption : ∀ (th' rf' md' : Int32), MM g w0 y nM kd (upw _ y (.inr (7, [.int th', .ref nM, .ref _, .ref _, .int rf', .int kd, .int md'])))) _ _ _)
    | with_reducible exact hQ _ (by first | assumption | exact MMz.m (by assumption) | exact MM.fr (by first | assumption | exact MMz.m (by assumption)) (by assumption) | exact MM.ext' (by assumption) (by assumption) | exact (by assumption : ∀ f', MM g w0 y nM kd (upw _ nM (.inl (0, 8, .inr (.inl f'))))) _ | exact (by assumption : ∀ (th' rf' md' : Int32), MM g w0 y nM kd (upw _ y (.inr (7, [.int th', .ref nM, .ref _, .ref _, .int rf', .int kd, .int md'])))) _ _ _)
    | with_reducible exact hQ _
    | with_reducible exact n4g
    | with_reducible exact n4a
    | with_reducible exact n4b
    | with_reducible exact n4c
    | with_reducible refine sX3_high (fun _ => ?_)
    | with_reducible refine sX3_low (fun _ => ?_)
    | with_reducible refine sX3_one (fun _ => ?_)
    | with_reducible refine sX3_become (by first | assumption | exact MMz.m (by assumption) | exact MM.fr (by first | assumption | exact MMz.m (by assumption)) (by assumption) | exact MM.ext' (by assumption) (by assumption) | exact (by assumption : ∀ f', MM g w0 y nM kd (upw _ nM (.inl (0, 8, .inr (.inl f'))))) _ | exact (by assumption : ∀ (th' rf' md' : Int32), MM g w0 y nM kd (upw _ y (.inr (7, [.int th', .ref nM, .ref _, .ref _, .int rf', .int kd, .int md'])))) _ _ _) (by assumption) (by assumption) (fun _ _ _ => ?_)
    | with_reducible refine sX3_no (by first | assumption | exact MMz.m (by assumption) | exact MM.fr (by first | assumption | exact MMz.m (by assumption)) (by assumption) | exact MM.ext' (by assumption) (by assumption) | exact (by assumption : ∀ f', MM g w0 y nM kd (upw _ nM (.inl (0, 8, .inr (.inl f'))))) _ | exact (by assumption : ∀ (th' rf' md' : Int32), MM g w0 y nM kd (upw _ y (.inr (7, [.int th', .ref nM, .ref _, .ref _, .int rf', .int kd, .int md'])))) _ _ _) (fun _ _ => ?_)
    | with_reducible refine sX3_fixed (by first | assumption | exact CAt.row (by assumption) | exact isRow.ext (by assumption) (by assumption)) ?_ ?_
    | with_reducible refine sX3_small (by first | assumption | exact CAt.row (by assumption) | exact isRow.ext (by assumption) (by assumption)) ?_ ?_
    | simp only [eX3_make_0, eX3_make_1, eX3_make_3, eX3_make_5, eX3_make_7, eX3_make_10, eX3_make_13, eX3_make_13N, eX3_make_14, eX3_make_17, eX3_make_18, eX3_make_18N, eX3_make_19, eX3_make_22, eX3_make_23, eX3_make_24, eX3_make_26, eX3_make_26R, eX3_make_27, eX3_make_28, eX3_make_29, eX3_make_30, eX3_make_30R, eX3_make_31, eX3_make_32, eX3_make_34, eX3_make_35, eX3_make_35R, eX3_make_36, eX3_make_37, eX3_make_39, eX3_make_40, eX3_make_40R, eX3_make_41, eX3_make_42, eX3_make_44, eX3_make_45R, eX3_make_45N, eX3_make_48, eX3_make_48R, eX3_make_48N, eX3_make_49, eX3_make_49N, eX3_make_50, eX3_make_50R, eX3_make_51, eX3_make_54, eX3_make_55, eX3_make_56, eX3_make_59, eX3_make_60, ite_le, n45, n54, true_or, or_true, false_or, or_false, false_and, and_false, kx_l, kx_r, go_s, gl_s, gi_s, gb_s2, gb_s3, gq_s, wt_nil, wt_int, wt_long, wt_ref, wt_null, nl_int, nl_long, nl_ref, nl_null, nl_none, rf_n, rf_s, rf_st, tl_s, tl_n, g0, gS, ex1, nb_b, nb_0, nb_1, nf_i, nf_l, nf_ra, nf_ro, nf_na, nf_no, nf_b0, nf_z0, t45_4, t45_5, true_and, and_true, List.set_cons_zero, List.set_cons_succ, List.length_cons, List.length_nil, rd_s, upw_s, ne_eq, not_false_eq_true, Nat.zero_add, Nat.add_zero, if_true, if_false, eq_self, m10, n4e, upw2q]
    | split
    | with_reducible intro _
    | omega
end
end
/-! 63.mod0.lean.txt -/
section
section
variable {g : RO} {Q : Ot → Hw → Prop} {w0 w : Hw}
variable {y nM : Nat} {kd : Int32}
theorem lt65 {a : Int32} (h : a < 6) : ¬ 5 < a := by
  have h1 := i32_lt h
  refine i32_of_nlt ?_
  have e : (5 : Int32).toInt = 5 := rfl
  have e6 : (6 : Int32).toInt = 6 := rfl
  omega
theorem vpi4l {a : Int32} (h0 : ¬ a < 0) (h1 : a < 4) : vp_in a 4 := vpi h0 h1 (by decide)
theorem m9 : ((-1 : Int32) = -1) = True := eq_true rfl
theorem nbz {a : Int32} (h : a = 0 ∨ a = 1) : narrow .boolean (.int a) = .int a := by rcases h with rfl | rfl <;> rfl
theorem bz1 {a : Int32} (h : a = 0 ∨ a = 1) : a &&& 1 = 0 ∨ a &&& 1 = 1 := by rcases h with rfl | rfl <;> decide
theorem bz0 {a : Int32} (h : a = 0 ∨ a = 1) : a &&& 0 = 0 ∨ a &&& 0 = 1 := by rcases h with rfl | rfl <;> decide
theorem bor {a b : Int32} (h : a = 0 ∨ a = 1) (k : b = 0 ∨ b = 1) : a ||| b = 0 ∨ a ||| b = 1 := by rcases h with rfl | rfl <;> rcases k with rfl | rfl <;> decide
set_option maxHeartbeats 4000000 in
theorem lX3_same_4 {p q : Nat} (hp : isRow w p) (hq : isRow w q) (hQ : ∀ v : Int32, (v = 0 ∨ v = 1) → Q (.inl (some (.int v))) w) : ∀ (d : Nat) (i2 : Int32) (i3 : Int32) (k m : Nat), ¬ i3 < 0 → (i2 = 0 ∨ i2 = 1) → (4 : Int32).toInt - i3.toInt ≤ (d : Int) → k ≤ 0 → m ≤ 0 → WP (MX3_same g) Q (4, [some (.ref p), some (.ref q), some (.int i2), some (.int i3)], [], w, k, m) := by
  intro d
  induction d with
  | zero =>
    intro i2 i3 k m z0 zi hm hk hs
    rw [eX3_same_4]
    repeat' first
      | with_reducible assumption
      | with_reducible refine And.intro ?_ ?_
      | with_reducible exact (ic_z (by assumption) (by assumption)).elim
      | with_reducible exact vpi4l (by assumption) (by assumption)
      | with_reducible refine gl_Row (by assumption) (fun _ => ?_)
      | with_reducible exact hQ _ (by assumption)
      | with_reducible exact nbz (by assumption)
      | simp only [eX3_same_0, eX3_same_1, eX3_same_2, eX3_same_3, eX3_same_5, eX3_same_6, eX3_same_9, eX3_same_10, eX3_same_10N, eX3_same_11, eX3_same_12, eX3_same_13, eX3_same_13N, eX3_same_14, eX3_same_15, eX3_same_16, eX3_same_17, eX3_same_20, eX3_same_21, eX3_same_24, eX3_same_25, eX3_same_26, eX3_same_27, eX3_same_30, eX3_same_33, eX3_same_34, ite_le, n45, n54, true_or, or_true, false_or, or_false, false_and, and_false, kx_l, kx_r, go_s, gl_s, gi_s, gb_s2, gb_s3, gq_s, wt_nil, wt_int, wt_long, wt_ref, wt_null, nl_int, nl_long, nl_ref, nl_null, nl_none, rf_n, rf_s, rf_st, tl_s, tl_n, g0, gS, ex1, nb_b, nb_0, nb_1, nf_i, nf_l, nf_ra, nf_ro, nf_na, nf_no, nf_b0, nf_z0, t45_4, t45_5, true_and, and_true, List.set_cons_zero, List.set_cons_succ, List.length_cons, List.length_nil, rd_s, upw_s, ne_eq, not_false_eq_true, Nat.zero_add, Nat.add_zero, if_true, if_false, eq_self, m10, n4e, upw2q]
      | split
      | with_reducible intro _
      | omega
  | succ d ih =>
    intro i2 i3 k m z0 zi hm hk hs
    rw [eX3_same_4]
    repeat' first
      | with_reducible assumption
      | with_reducible refine And.intro ?_ ?_
      | with_reducible exact ih _ _ _ _ (ic_p (by assumption) (by assumption)) (by first | exact bz1 (by assumption) | exact bz0 (by assumption)) (ic_s (by assumption) (by assumption)) (by first | assumption | omega) (by first | assumption | omega)
      | with_reducible exact vpi4l (by assumption) (by assumption)
      | with_reducible refine gl_Row (by assumption) (fun _ => ?_)
      | with_reducible exact hQ _ (by assumption)
      | with_reducible exact nbz (by assumption)
      | simp only [eX3_same_0, eX3_same_1, eX3_same_2, eX3_same_3, eX3_same_5, eX3_same_6, eX3_same_9, eX3_same_10, eX3_same_10N, eX3_same_11, eX3_same_12, eX3_same_13, eX3_same_13N, eX3_same_14, eX3_same_15, eX3_same_16, eX3_same_17, eX3_same_20, eX3_same_21, eX3_same_24, eX3_same_25, eX3_same_26, eX3_same_27, eX3_same_30, eX3_same_33, eX3_same_34, ite_le, n45, n54, true_or, or_true, false_or, or_false, false_and, and_false, kx_l, kx_r, go_s, gl_s, gi_s, gb_s2, gb_s3, gq_s, wt_nil, wt_int, wt_long, wt_ref, wt_null, nl_int, nl_long, nl_ref, nl_null, nl_none, rf_n, rf_s, rf_st, tl_s, tl_n, g0, gS, ex1, nb_b, nb_0, nb_1, nf_i, nf_l, nf_ra, nf_ro, nf_na, nf_no, nf_b0, nf_z0, t45_4, t45_5, true_and, and_true, List.set_cons_zero, List.set_cons_succ, List.length_cons, List.length_nil, rd_s, upw_s, ne_eq, not_false_eq_true, Nat.zero_add, Nat.add_zero, if_true, if_false, eq_self, m10, n4e, upw2q]
      | split
      | with_reducible intro _
      | omega
set_option maxHeartbeats 4000000 in
theorem sX3_same {p q : Nat} (hp : isRow w p) (hq : isRow w q) (hQ : ∀ v : Int32, (v = 0 ∨ v = 1) → Q (.inl (some (.int v))) w) : WP (MX3_same g) Q (0, [some (.ref p), some (.ref q), none, none], [], w, 0, 0) := by
  repeat' first
    | with_reducible assumption
    | with_reducible refine And.intro ?_ ?_
    | with_reducible exact lX3_same_4 hp hq hQ 70 _ _ _ _ (by first | decide | assumption) (Or.inr rfl) (by decide) (by first | decide | omega) (by first | decide | omega)
    | with_reducible exact vpi4l (by assumption) (by assumption)
    | with_reducible refine gl_Row (by assumption) (fun _ => ?_)
    | with_reducible exact hQ _ (by assumption)
    | with_reducible exact nbz (by assumption)
    | simp only [eX3_same_0, eX3_same_1, eX3_same_2, eX3_same_3, eX3_same_5, eX3_same_6, eX3_same_9, eX3_same_10, eX3_same_10N, eX3_same_11, eX3_same_12, eX3_same_13, eX3_same_13N, eX3_same_14, eX3_same_15, eX3_same_16, eX3_same_17, eX3_same_20, eX3_same_21, eX3_same_24, eX3_same_25, eX3_same_26, eX3_same_27, eX3_same_30, eX3_same_33, eX3_same_34, ite_le, n45, n54, true_or, or_true, false_or, or_false, false_and, and_false, kx_l, kx_r, go_s, gl_s, gi_s, gb_s2, gb_s3, gq_s, wt_nil, wt_int, wt_long, wt_ref, wt_null, nl_int, nl_long, nl_ref, nl_null, nl_none, rf_n, rf_s, rf_st, tl_s, tl_n, g0, gS, ex1, nb_b, nb_0, nb_1, nf_i, nf_l, nf_ra, nf_ro, nf_na, nf_no, nf_b0, nf_z0, t45_4, t45_5, true_and, and_true, List.set_cons_zero, List.set_cons_succ, List.length_cons, List.length_nil, rd_s, upw_s, ne_eq, not_false_eq_true, Nat.zero_add, Nat.add_zero, if_true, if_false, eq_self, m10, n4e, upw2q]
    | split
    | with_reducible intro _
    | omega
set_option maxHeartbeats 4000000 in
theorem lX3_aroundNow_5 {p : Nat} {a c : Int32} (hp : isRow w p) (k0 : ¬ a < 0) (k1 : ¬ 3 < a) (hQ : ∀ v : Int32, Q (.inl (some (.int v))) w) : ∀ (d : Nat) (i3 : Int32) (i4 : Int32) (k m : Nat), (1 : Int32).toInt + 1 - i4.toInt ≤ (d : Int) → k ≤ 0 → m ≤ 0 → WP (MX3_aroundNow g) Q (5, [some (.ref p), some (.int a), some (.int c), some (.int i3), some (.int i4)], [], w, k, m) := by
  intro d
  induction d with
  | zero =>
    intro i3 i4 k m hm hk hs
    rw [eX3_aroundNow_5]
    repeat' first
      | with_reducible assumption
      | with_reducible refine And.intro ?_ ?_
      | with_reducible exact (ic_zl (by assumption) (by assumption)).elim
      | with_reducible refine sX3_valid (by assumption) ?_ ?_
      | with_reducible exact vpi4n (by assumption) (by assumption)
      | with_reducible refine gl_Row (by assumption) (fun _ => ?_)
      | with_reducible exact hQ _
      | simp only [eX3_aroundNow_0, eX3_aroundNow_1, eX3_aroundNow_2, eX3_aroundNow_3, eX3_aroundNow_7, eX3_aroundNow_8, eX3_aroundNow_11, eX3_aroundNow_12, eX3_aroundNow_12N, eX3_aroundNow_13, eX3_aroundNow_13N, eX3_aroundNow_14, eX3_aroundNow_15, eX3_aroundNow_16, eX3_aroundNow_18, eX3_aroundNow_19, eX3_aroundNow_20, eX3_aroundNow_21R, eX3_aroundNow_21N, eX3_aroundNow_24, eX3_aroundNow_27, eX3_aroundNow_28, eX3_aroundNow_30, eX3_aroundNow_31, eX3_aroundNow_32, eX3_aroundNow_33, eX3_aroundNow_36, eX3_aroundNow_37, eX3_aroundNow_38, eX3_aroundNow_39, eX3_aroundNow_42, eX3_aroundNow_45, eX3_aroundNow_46, ite_le, n45, n54, true_or, or_true, false_or, or_false, false_and, and_false, kx_l, kx_r, go_s, gl_s, gi_s, gb_s2, gb_s3, gq_s, wt_nil, wt_int, wt_long, wt_ref, wt_null, nl_int, nl_long, nl_ref, nl_null, nl_none, rf_n, rf_s, rf_st, tl_s, tl_n, g0, gS, ex1, nb_b, nb_0, nb_1, nf_i, nf_l, nf_ra, nf_ro, nf_na, nf_no, nf_b0, nf_z0, t45_4, t45_5, true_and, and_true, List.set_cons_zero, List.set_cons_succ, List.length_cons, List.length_nil, rd_s, upw_s, ne_eq, not_false_eq_true, Nat.zero_add, Nat.add_zero, if_true, if_false, eq_self, m10, n4e, upw2q]
      | split
      | with_reducible intro _
      | omega
  | succ d ih =>
    intro i3 i4 k m hm hk hs
    rw [eX3_aroundNow_5]
    repeat' first
      | with_reducible assumption
      | with_reducible refine And.intro ?_ ?_
      | with_reducible exact ih _ _ _ _ (ic_sl (by assumption) (by assumption) (by decide)) (by first | assumption | omega) (by first | assumption | omega)
      | with_reducible refine sX3_valid (by assumption) ?_ ?_
      | with_reducible exact vpi4n (by assumption) (by assumption)
      | with_reducible refine gl_Row (by assumption) (fun _ => ?_)
      | with_reducible exact hQ _
      | simp only [eX3_aroundNow_0, eX3_aroundNow_1, eX3_aroundNow_2, eX3_aroundNow_3, eX3_aroundNow_7, eX3_aroundNow_8, eX3_aroundNow_11, eX3_aroundNow_12, eX3_aroundNow_12N, eX3_aroundNow_13, eX3_aroundNow_13N, eX3_aroundNow_14, eX3_aroundNow_15, eX3_aroundNow_16, eX3_aroundNow_18, eX3_aroundNow_19, eX3_aroundNow_20, eX3_aroundNow_21R, eX3_aroundNow_21N, eX3_aroundNow_24, eX3_aroundNow_27, eX3_aroundNow_28, eX3_aroundNow_30, eX3_aroundNow_31, eX3_aroundNow_32, eX3_aroundNow_33, eX3_aroundNow_36, eX3_aroundNow_37, eX3_aroundNow_38, eX3_aroundNow_39, eX3_aroundNow_42, eX3_aroundNow_45, eX3_aroundNow_46, ite_le, n45, n54, true_or, or_true, false_or, or_false, false_and, and_false, kx_l, kx_r, go_s, gl_s, gi_s, gb_s2, gb_s3, gq_s, wt_nil, wt_int, wt_long, wt_ref, wt_null, nl_int, nl_long, nl_ref, nl_null, nl_none, rf_n, rf_s, rf_st, tl_s, tl_n, g0, gS, ex1, nb_b, nb_0, nb_1, nf_i, nf_l, nf_ra, nf_ro, nf_na, nf_no, nf_b0, nf_z0, t45_4, t45_5, true_and, and_true, List.set_cons_zero, List.set_cons_succ, List.length_cons, List.length_nil, rd_s, upw_s, ne_eq, not_false_eq_true, Nat.zero_add, Nat.add_zero, if_true, if_false, eq_self, m10, n4e, upw2q]
      | split
      | with_reducible intro _
      | omega
set_option maxHeartbeats 4000000 in
theorem sX3_aroundNow {p : Nat} {a c : Int32} (hp : isRow w p) (k0 : ¬ a < 0) (k1 : ¬ 3 < a) (hQ : ∀ v : Int32, Q (.inl (some (.int v))) w) : WP (MX3_aroundNow g) Q (0, [some (.ref p), some (.int a), some (.int c), none, none], [], w, 0, 0) := by
  repeat' first
    | with_reducible assumption
    | with_reducible refine And.intro ?_ ?_
    | with_reducible exact lX3_aroundNow_5 hp k0 k1 hQ 70 _ _ _ _ (by decide) (by first | decide | omega) (by first | decide | omega)
    | with_reducible refine sX3_valid (by assumption) ?_ ?_
    | with_reducible exact vpi4n (by assumption) (by assumption)
    | with_reducible refine gl_Row (by assumption) (fun _ => ?_)
    | with_reducible exact hQ _
    | simp only [eX3_aroundNow_0, eX3_aroundNow_1, eX3_aroundNow_2, eX3_aroundNow_3, eX3_aroundNow_7, eX3_aroundNow_8, eX3_aroundNow_11, eX3_aroundNow_12, eX3_aroundNow_12N, eX3_aroundNow_13, eX3_aroundNow_13N, eX3_aroundNow_14, eX3_aroundNow_15, eX3_aroundNow_16, eX3_aroundNow_18, eX3_aroundNow_19, eX3_aroundNow_20, eX3_aroundNow_21R, eX3_aroundNow_21N, eX3_aroundNow_24, eX3_aroundNow_27, eX3_aroundNow_28, eX3_aroundNow_30, eX3_aroundNow_31, eX3_aroundNow_32, eX3_aroundNow_33, eX3_aroundNow_36, eX3_aroundNow_37, eX3_aroundNow_38, eX3_aroundNow_39, eX3_aroundNow_42, eX3_aroundNow_45, eX3_aroundNow_46, ite_le, n45, n54, true_or, or_true, false_or, or_false, false_and, and_false, kx_l, kx_r, go_s, gl_s, gi_s, gb_s2, gb_s3, gq_s, wt_nil, wt_int, wt_long, wt_ref, wt_null, nl_int, nl_long, nl_ref, nl_null, nl_none, rf_n, rf_s, rf_st, tl_s, tl_n, g0, gS, ex1, nb_b, nb_0, nb_1, nf_i, nf_l, nf_ra, nf_ro, nf_na, nf_no, nf_b0, nf_z0, t45_4, t45_5, true_and, and_true, List.set_cons_zero, List.set_cons_succ, List.length_cons, List.length_nil, rd_s, upw_s, ne_eq, not_false_eq_true, Nat.zero_add, Nat.add_zero, if_true, if_false, eq_self, m10, n4e, upw2q]
    | split
    | with_reducible intro _
    | omega
end
end
/-! 63.mod1.lean.txt -/
section
section
variable {g : RO} {Q : Ot → Hw → Prop} {w0 w : Hw}
variable {y nM : Nat} {kd : Int32}
set_option maxHeartbeats 4000000 in
theorem lX3_whoNow_5 {a c : Int32} (hM : MM g w0 y nM kd w) (k0 : ¬ a < 0) (k1 : ¬ 7 < a) (hQ : ∀ v : Int32, Q (.inl (some (.int v))) w) : ∀ (d : Nat) (i3 : Int32) (i4 : Int32) (k m : Nat), ¬ i4 < 0 → (6 : Int32).toInt - i4.toInt ≤ (d : Int) → k ≤ 0 → m ≤ 0 → WP (MX3_whoNow g) Q (5, [some (.ref y), some (.int a), some (.int c), some (.int i3), some (.int i4)], [], w, k, m) := by
  intro d
  induction d with
  | zero =>
    intro i3 i4 k m z0 hm hk hs
    rw [eX3_whoNow_5]
    repeat' first
      | with_reducible assumption
      | with_reducible refine And.intro ?_ ?_
      | with_reducible exact (ic_z (by assumption) (by assumption)).elim
      | with_reducible exact absurd (by assumption) n10'
      | with_reducible refine sX3_isNoNumber ?_ (fun _ _ => ?_)
      | with_reducible refine sX3_isNoCard ?_ (fun _ _ => ?_)
      | with_reducible refine sX3_isNoEnd ?_ (fun _ _ => ?_)
      | with_reducible refine sX3_isIn (fun _ _ => ?_) ?_
      | with_reducible refine sX3_start (by first | assumption | exact MMz.m (by assumption) | exact MM.fr (by first | assumption | exact MMz.m (by assumption)) (by assumption) | exact MM.ext' (by assumption) (by assumption) | exact (by assumption : ∀ f', MM g w0 y nM kd (upw _ nM (.inl (0, 8, .inr (.inl f'))))) _ | exact (by assumption : ∀ (th' rf' md' : Int32), MM g w0 y nM kd (upw _ y (.inr (7, [.int th', .ref nM, .ref _, .ref _, .int rf', .int kd, .int md'])))) _ _ _) (by decide) (fun _ _ _ => ?_) (fun _ _ => ?_)
      | with_reducible refine sX3_refuse (by assumption) (by decide) (fun _ => ?_) (fun _ _ => ?_)
      | with_reducible refine sX3_isBareM (by first | assumption | exact MMz.m (by assumption) | exact MM.fr (by first | assumption | exact MMz.m (by assumption)) (by assumption) | exact MM.ext' (by assumption) (by assumption) | exact (by assumption : ∀ f', MM g w0 y nM kd (upw _ nM (.inl (0, 8, .inr (.inl f'))))) _ | exact (by assumption : ∀ (th' rf' md' : Int32), MM g w0 y nM kd (upw _ y (.inr (7, [.int th', .ref nM, .ref _, .ref _, .int rf', .int kd, .int md'])))) _ _ _) (by assumption) (by first | assumption | exact lt65 (by assumption)) ?_ (fun _ _ => ?_)
      | with_reducible refine sX3_isNone (by first | assumption | exact MMz.m (by assumption) | exact MM.fr (by first | assumption | exact MMz.m (by assumption)) (by assumption) | exact MM.ext' (by assumption) (by assumption) | exact (by assumption : ∀ f', MM g w0 y nM kd (upw _ nM (.inl (0, 8, .inr (.inl f'))))) _ | exact (by assumption : ∀ (th' rf' md' : Int32), MM g w0 y nM kd (upw _ y (.inr (7, [.int th', .ref nM, .ref _, .ref _, .int rf', .int kd, .int md'])))) _ _ _) (fun _ _ => ?_) (fun _ _ _ _ _ _ => ?_)
      | with_reducible exact vpi8n (by assumption) (by assumption)
      | with_reducible exact vpi4n (by assumption) (by assumption)
      | with_reducible exact vpi4.1
      | with_reducible exact vpi4.2.1
      | with_reducible exact vpi4.2.2.1
      | with_reducible exact vpi4.2.2.2
      | with_reducible refine go_Y (by first | assumption | exact MMz.m (by assumption) | exact MM.fr (by first | assumption | exact MMz.m (by assumption)) (by assumption) | exact MM.ext' (by assumption) (by assumption) | exact (by assumption : ∀ f', MM g w0 y nM kd (upw _ nM (.inl (0, 8, .inr (.inl f'))))) _ | exact (by assumption : ∀ (th' rf' md' : Int32), MM g w0 y nM kd (upw _ y (.inr (7, [.int th', .ref nM, .ref _, .ref _, .int rf', .int kd, .int md'])))) _ _ _) (fun _ _ _ _ _ _ => ?_)
      | with_reducible refine go_Yw (by first | assumption | exact MMz.m (by assumption) | exact MM.fr (by first | assumption | exact MMz.m (by assumption)) (by assumption) | exact MM.ext' (by assumption) (by assumption) | exact (by assumption : ∀ f', MM g w0 y nM kd (upw _ nM (.inl (0, 8, .inr (.inl f'))))) _ | exact (by assumption : ∀ (th' rf' md' : Int32), MM g w0 y nM kd (upw _ y (.inr (7, [.int th', .ref nM, .ref _, .ref _, .int rf', .int kd, .int md'])))) _ _ _) (fun _ _ _ _ _ _ => ?_)
      | with_reducible refine gl_M (by first | assumption | exact MMz.m (by assumption) | exact MM.fr (by first | assumption | exact MMz.m (by assumption)) (by assumption) | exact MM.ext' (by assumption) (by assumption) | exact (by assumption : ∀ f', MM g w0 y nM kd (upw _ nM (.inl (0, 8, .inr (.inl f'))))) _ | exact (by assumption : ∀ (th' rf' md' : Int32), MM g w0 y nM kd (upw _ y (.inr (7, [.int th', .ref nM, .ref _, .ref _, .int rf', .int kd, .int md'])))) _ _ _) ?_
      | with_reducible refine gl_Mw (by first | assumption | exact MMz.m (by assumption) | exact MM.fr (by first | assumption | exact MMz.m (by assumption)) (by assumption) | exact MM.ext' (by assumption) (by assumption) | exact (by assumption : ∀ f', MM g w0 y nM kd (upw _ nM (.inl (0, 8, .inr (.inl f'))))) _ | exact (by assumption : ∀ (th' rf' md' : Int32), MM g w0 y nM kd (upw _ y (.inr (7, [.int th', .ref nM, .ref _, .ref _, .int rf', .int kd, .int md'])))) _ _ _) ?_
      | with_reducible exact gtC (by first | assumption | exact MMz.m (by assumption) | exact MM.fr (by first | assumption | exact MMz.m (by assumption)) (by assumption) | exact MM.ext' (by assumption) (by assumption) | exact (by assumption : ∀ f', MM g w0 y nM kd (upw _ nM (.inl (0, 8, .inr (.inl f'))))) _ | exact (by assumption : ∀ (th' rf' md' : Int32), MM g w0 y nM kd (upw _ y (.inr (7, [.int th', .ref nM, .ref _, .ref _, .int rf', .int kd, .int md'])))) _ _ _) (by first | assumption | exact isY.s | exact isY.fr (by assumption) (by assumption))
      | with_reducible exact gtP (by first | assumption | exact MMz.m (by assumption) | exact MM.fr (by first | assumption | exact MMz.m (by assumption)) (by assumption) | exact MM.ext' (by assumption) (by assumption) | exact (by assumption : ∀ f', MM g w0 y nM kd (upw _ nM (.inl (0, 8, .inr (.inl f'))))) _ | exact (by assumption : ∀ (th' rf' md' : Int32), MM g w0 y nM kd (upw _ y (.inr (7, [.int th', .ref nM, .ref _, .ref _, .int rf', .int kd, .int md'])))) _ _ _) (by first | assumption | exact isY.s | exact isY.fr (by assumption) (by assumption))
      | with_reducible refine gl_Row (by first | assumption | exact CAt.row (by assumption) | exact isRow.ext (by assumption) (by assumption)) (fun _ => ?_)
      | with_reducible exact isRow.ca (by first | assumption | exact CAt.row (by assumption) | exact isRow.ext (by assumption) (by assumption))
      | with_reducible refine sGetY (by first | assumption | exact CAt.fr (by assumption) (by assumption)) (by first | assumption | exact isY.s | exact isY.fr (by assumption) (by assumption)) (by assumption) (by first | assumption | exact lt65 (by assumption)) ?_
      | with_reducible exact hQ _ _ (by first | assumption | exact MMz.m (by assumption) | exact MM.fr (by first | assumption | exact MMz.m (by assumption)) (by assumption) | exact MM.ext' (by assumption) (by assumption) | exact (by assumption : ∀ f', MM g w0 y nM kd (upw _ nM (.inl (0, 8, .inr (.inl f'))))) _ | exact (by assumption : ∀ (th' rf' md' : Int32), MM g w0 y nM kd (upw _ y (.inr (7, [.int th', .ref nM, .ref _, .ref _, .int rf', .int kd, .int md'])))) _ _ _)
      | with_reducible exact hQ _ (by first | assumption | exact MMz.m (by assumption) | exact MM.fr (by first | assumption | exact MMz.m (by assumption)) (by assumption) | exact MM.ext' (by assumption) (by assumption) | exact (by assumption : ∀ f', MM g w0 y nM kd (upw _ nM (.inl (0, 8, .inr (.inl f'))))) _ | exact (by assumption : ∀ (th' rf' md' : Int32), MM g w0 y nM kd (upw _ y (.inr (7, [.int th', .ref nM, .ref _, .ref _, .int rf', .int kd, .int md'])))) _ _ _)
      | with_reducible exact hQ _
      | with_reducible exact n4g
      | with_reducible exact n4a
      | with_reducible exact n4b
      | with_reducible exact n4c
      | with_reducible refine sX3_high (fun _ => ?_)
      | with_reducible refine sX3_low (fun _ => ?_)
      | with_reducible refine sX3_one (fun _ => ?_)
      | with_reducible refine sX3_become (by first | assumption | exact MMz.m (by assumption) | exact MM.fr (by first | assumption | exact MMz.m (by assumption)) (by assumption) | exact MM.ext' (by assumption) (by assumption) | exact (by assumption : ∀ f', MM g w0 y nM kd (upw _ nM (.inl (0, 8, .inr (.inl f'))))) _ | exact (by assumption : ∀ (th' rf' md' : Int32), MM g w0 y nM kd (upw _ y (.inr (7, [.int th', .ref nM, .ref _, .ref _, .int rf', .int kd, .int md'])))) _ _ _) (by assumption) (by assumption) (fun _ _ _ => ?_)
      | with_reducible refine sX3_no (by first | assumption | exact MMz.m (by assumption) | exact MM.fr (by first | assumption | exact MMz.m (by assumption)) (by assumption) | exact MM.ext' (by assumption) (by assumption) | exact (by assumption : ∀ f', MM g w0 y nM kd (upw _ nM (.inl (0, 8, .inr (.inl f'))))) _ | exact (by assumption : ∀ (th' rf' md' : Int32), MM g w0 y nM kd (upw _ y (.inr (7, [.int th', .ref nM, .ref _, .ref _, .int rf', .int kd, .int md'])))) _ _ _) (fun _ _ => ?_)
      | with_reducible refine sX3_fixed (by first | assumption | exact CAt.row (by assumption) | exact isRow.ext (by assumption) (by assumption)) ?_ ?_
      | with_reducible refine sX3_small (by first | assumption | exact CAt.row (by assumption) | exact isRow.ext (by assumption) (by assumption)) ?_ ?_
      | with_reducible refine sX3_make (by first | assumption | exact MMz.m (by assumption) | exact MM.fr (by first | assumption | exact MMz.m (by assumption)) (by assumption) | exact MM.ext' (by assumption) (by assumption) | exact (by assumption : ∀ f', MM g w0 y nM kd (upw _ nM (.inl (0, 8, .inr (.inl f'))))) _ | exact (by assumption : ∀ (th' rf' md' : Int32), MM g w0 y nM kd (upw _ y (.inr (7, [.int th', .ref nM, .ref _, .ref _, .int rf', .int kd, .int md'])))) _ _ _) (by assumption) (by assumption) (fun _ _ _ => ?_)
      | with_reducible refine sX3_valid (by first | assumption | exact CAt.row (by assumption) | exact isRow.ext (by assumption) (by assumption)) ?_ ?_
      | with_reducible refine sX3_same (by first | assumption | exact CAt.row (by assumption) | exact isRow.ext (by assumption) (by assumption)) (by first | assumption | exact CAt.row (by assumption) | exact isRow.ext (by assumption) (by assumption)) (fun _ _ => ?_)
      | with_reducible refine sX3_aroundNow (by first | assumption | exact CAt.row (by assumption) | exact isRow.ext (by assumption) (by assumption)) (by assumption) (by assumption) (fun _ => ?_)
      | simp only [eX3_whoNow_0, eX3_whoNow_1, eX3_whoNow_2, eX3_whoNow_3, eX3_whoNow_7, eX3_whoNow_9, eX3_whoNow_12, eX3_whoNow_12N, eX3_whoNow_13, eX3_whoNow_15, eX3_whoNow_18, eX3_whoNow_21, eX3_whoNow_21N, eX3_whoNow_22, eX3_whoNow_25, eX3_whoNow_27, eX3_whoNow_30N, eX3_whoNow_30R, eX3_whoNow_33, eX3_whoNow_33N, eX3_whoNow_34, eX3_whoNow_37, eX3_whoNow_38, eX3_whoNow_39, eX3_whoNow_40, eX3_whoNow_41, eX3_whoNow_44, eX3_whoNow_45, eX3_whoNow_48, eX3_whoNow_49R, eX3_whoNow_49N, eX3_whoNow_52, eX3_whoNow_55, eX3_whoNow_56, eX3_whoNow_57, eX3_whoNow_59, eX3_whoNow_60, eX3_whoNow_61, eX3_whoNow_62, eX3_whoNow_65, eX3_whoNow_68, eX3_whoNow_69, ite_le, n45, n54, true_or, or_true, false_or, or_false, false_and, and_false, kx_l, kx_r, go_s, gl_s, gi_s, gb_s2, gb_s3, gq_s, wt_nil, wt_int, wt_long, wt_ref, wt_null, nl_int, nl_long, nl_ref, nl_null, nl_none, rf_n, rf_s, rf_st, tl_s, tl_n, g0, gS, ex1, nb_b, nb_0, nb_1, nf_i, nf_l, nf_ra, nf_ro, nf_na, nf_no, nf_b0, nf_z0, t45_4, t45_5, true_and, and_true, List.set_cons_zero, List.set_cons_succ, List.length_cons, List.length_nil, rd_s, upw_s, ne_eq, not_false_eq_true, Nat.zero_add, Nat.add_zero, if_true, if_false, eq_self, m10, n4e, upw2q]
      | split
      | with_reducible intro _
      | omega
  | succ d ih =>
    intro i3 i4 k m z0 hm hk hs
    rw [eX3_whoNow_5]
    repeat' first
      | with_reducible assumption
      | with_reducible refine And.intro ?_ ?_
      | with_reducible exact ih _ _ _ _ (ic_p (by assumption) (by assumption)) (ic_s (by assumption) (by assumption)) (by first | assumption | omega) (by first | assumption | omega)
      | with_reducible exact absurd (by assumption) n10'
      | with_reducible refine sX3_isNoNumber ?_ (fun _ _ => ?_)
      | with_reducible refine sX3_isNoCard ?_ (fun _ _ => ?_)
      | with_reducible refine sX3_isNoEnd ?_ (fun _ _ => ?_)
      | with_reducible refine sX3_isIn (fun _ _ => ?_) ?_
      | with_reducible refine sX3_start (by first | assumption | exact MMz.m (by assumption) | exact MM.fr (by first | assumption | exact MMz.m (by assumption)) (by assumption) | exact MM.ext' (by assumption) (by assumption) | exact (by assumption : ∀ f', MM g w0 y nM kd (upw _ nM (.inl (0, 8, .inr (.inl f'))))) _ | exact (by assumption : ∀ (th' rf' md' : Int32), MM g w0 y nM kd (upw _ y (.inr (7, [.int th', .ref nM, .ref _, .ref _, .int rf', .int kd, .int md'])))) _ _ _) (by decide) (fun _ _ _ => ?_) (fun _ _ => ?_)
      | with_reducible refine sX3_refuse (by assumption) (by decide) (fun _ => ?_) (fun _ _ => ?_)
      | with_reducible refine sX3_isBareM (by first | assumption | exact MMz.m (by assumption) | exact MM.fr (by first | assumption | exact MMz.m (by assumption)) (by assumption) | exact MM.ext' (by assumption) (by assumption) | exact (by assumption : ∀ f', MM g w0 y nM kd (upw _ nM (.inl (0, 8, .inr (.inl f'))))) _ | exact (by assumption : ∀ (th' rf' md' : Int32), MM g w0 y nM kd (upw _ y (.inr (7, [.int th', .ref nM, .ref _, .ref _, .int rf', .int kd, .int md'])))) _ _ _) (by assumption) (by first | assumption | exact lt65 (by assumption)) ?_ (fun _ _ => ?_)
      | with_reducible refine sX3_isNone (by first | assumption | exact MMz.m (by assumption) | exact MM.fr (by first | assumption | exact MMz.m (by assumption)) (by assumption) | exact MM.ext' (by assumption) (by assumption) | exact (by assumption : ∀ f', MM g w0 y nM kd (upw _ nM (.inl (0, 8, .inr (.inl f'))))) _ | exact (by assumption : ∀ (th' rf' md' : Int32), MM g w0 y nM kd (upw _ y (.inr (7, [.int th', .ref nM, .ref _, .ref _, .int rf', .int kd, .int md'])))) _ _ _) (fun _ _ => ?_) (fun _ _ _ _ _ _ => ?_)
      | with_reducible exact vpi8n (by assumption) (by assumption)
      | with_reducible exact vpi4n (by assumption) (by assumption)
      | with_reducible exact vpi4.1
      | with_reducible exact vpi4.2.1
      | with_reducible exact vpi4.2.2.1
      | with_reducible exact vpi4.2.2.2
      | with_reducible refine go_Y (by first | assumption | exact MMz.m (by assumption) | exact MM.fr (by first | assumption | exact MMz.m (by assumption)) (by assumption) | exact MM.ext' (by assumption) (by assumption) | exact (by assumption : ∀ f', MM g w0 y nM kd (upw _ nM (.inl (0, 8, .inr (.inl f'))))) _ | exact (by assumption : ∀ (th' rf' md' : Int32), MM g w0 y nM kd (upw _ y (.inr (7, [.int th', .ref nM, .ref _, .ref _, .int rf', .int kd, .int md'])))) _ _ _) (fun _ _ _ _ _ _ => ?_)
      | with_reducible refine go_Yw (by first | assumption | exact MMz.m (by assumption) | exact MM.fr (by first | assumption | exact MMz.m (by assumption)) (by assumption) | exact MM.ext' (by assumption) (by assumption) | exact (by assumption : ∀ f', MM g w0 y nM kd (upw _ nM (.inl (0, 8, .inr (.inl f'))))) _ | exact (by assumption : ∀ (th' rf' md' : Int32), MM g w0 y nM kd (upw _ y (.inr (7, [.int th', .ref nM, .ref _, .ref _, .int rf', .int kd, .int md'])))) _ _ _) (fun _ _ _ _ _ _ => ?_)
      | with_reducible refine gl_M (by first | assumption | exact MMz.m (by assumption) | exact MM.fr (by first | assumption | exact MMz.m (by assumption)) (by assumption) | exact MM.ext' (by assumption) (by assumption) | exact (by assumption : ∀ f', MM g w0 y nM kd (upw _ nM (.inl (0, 8, .inr (.inl f'))))) _ | exact (by assumption : ∀ (th' rf' md' : Int32), MM g w0 y nM kd (upw _ y (.inr (7, [.int th', .ref nM, .ref _, .ref _, .int rf', .int kd, .int md'])))) _ _ _) ?_
      | with_reducible refine gl_Mw (by first | assumption | exact MMz.m (by assumption) | exact MM.fr (by first | assumption | exact MMz.m (by assumption)) (by assumption) | exact MM.ext' (by assumption) (by assumption) | exact (by assumption : ∀ f', MM g w0 y nM kd (upw _ nM (.inl (0, 8, .inr (.inl f'))))) _ | exact (by assumption : ∀ (th' rf' md' : Int32), MM g w0 y nM kd (upw _ y (.inr (7, [.int th', .ref nM, .ref _, .ref _, .int rf', .int kd, .int md'])))) _ _ _) ?_
      | with_reducible exact gtC (by first | assumption | exact MMz.m (by assumption) | exact MM.fr (by first | assumption | exact MMz.m (by assumption)) (by assumption) | exact MM.ext' (by assumption) (by assumption) | exact (by assumption : ∀ f', MM g w0 y nM kd (upw _ nM (.inl (0, 8, .inr (.inl f'))))) _ | exact (by assumption : ∀ (th' rf' md' : Int32), MM g w0 y nM kd (upw _ y (.inr (7, [.int th', .ref nM, .ref _, .ref _, .int rf', .int kd, .int md'])))) _ _ _) (by first | assumption | exact isY.s | exact isY.fr (by assumption) (by assumption))
      | with_reducible exact gtP (by first | assumption | exact MMz.m (by assumption) | exact MM.fr (by first | assumption | exact MMz.m (by assumption)) (by assumption) | exact MM.ext' (by assumption) (by assumption) | exact (by assumption : ∀ f', MM g w0 y nM kd (upw _ nM (.inl (0, 8, .inr (.inl f'))))) _ | exact (by assumption : ∀ (th' rf' md' : Int32), MM g w0 y nM kd (upw _ y (.inr (7, [.int th', .ref nM, .ref _, .ref _, .int rf', .int kd, .int md'])))) _ _ _) (by first | assumption | exact isY.s | exact isY.fr (by assumption) (by assumption))
      | with_reducible refine gl_Row (by first | assumption | exact CAt.row (by assumption) | exact isRow.ext (by assumption) (by assumption)) (fun _ => ?_)
      | with_reducible exact isRow.ca (by first | assumption | exact CAt.row (by assumption) | exact isRow.ext (by assumption) (by assumption))
      | with_reducible refine sGetY (by first | assumption | exact CAt.fr (by assumption) (by assumption)) (by first | assumption | exact isY.s | exact isY.fr (by assumption) (by assumption)) (by assumption) (by first | assumption | exact lt65 (by assumption)) ?_
      | with_reducible exact hQ _ _ (by first | assumption | exact MMz.m (by assumption) | exact MM.fr (by first | assumption | exact MMz.m (by assumption)) (by assumption) | exact MM.ext' (by assumption) (by assumption) | exact (by assumption : ∀ f', MM g w0 y nM kd (upw _ nM (.inl (0, 8, .inr (.inl f'))))) _ | exact (by assumption : ∀ (th' rf' md' : Int32), MM g w0 y nM kd (upw _ y (.inr (7, [.int th', .ref nM, .ref _, .ref _, .int rf', .int kd, .int md'])))) _ _ _)
      | with_reducible exact hQ _ (by first | assumption | exact MMz.m (by assumption) | exact MM.fr (by first | assumption | exact MMz.m (by assumption)) (by assumption) | exact MM.ext' (by assumption) (by assumption) | exact (by assumption : ∀ f', MM g w0 y nM kd (upw _ nM (.inl (0, 8, .inr (.inl f'))))) _ | exact (by assumption : ∀ (th' rf' md' : Int32), MM g w0 y nM kd (upw _ y (.inr (7, [.int th', .ref nM, .ref _, .ref _, .int rf', .int kd, .int md'])))) _ _ _)
      | with_reducible exact hQ _
      | with_reducible exact n4g
      | with_reducible exact n4a
      | with_reducible exact n4b
      | with_reducible exact n4c
      | with_reducible refine sX3_high (fun _ => ?_)
      | with_reducible refine sX3_low (fun _ => ?_)
      | with_reducible refine sX3_one (fun _ => ?_)
      | with_reducible refine sX3_become (by first | assumption | exact MMz.m (by assumption) | exact MM.fr (by first | assumption | exact MMz.m (by assumption)) (by assumption) | exact MM.ext' (by assumption) (by assumption) | exact (by assumption : ∀ f', MM g w0 y nM kd (upw _ nM (.inl (0, 8, .inr (.inl f'))))) _ | exact (by assumption : ∀ (th' rf' md' : Int32), MM g w0 y nM kd (upw _ y (.inr (7, [.int th', .ref nM, .ref _, .ref _, .int rf', .int kd, .int md'])))) _ _ _) (by assumption) (by assumption) (fun _ _ _ => ?_)
      | with_reducible refine sX3_no (by first | assumption | exact MMz.m (by assumption) | exact MM.fr (by first | assumption | exact MMz.m (by assumption)) (by assumption) | exact MM.ext' (by assumption) (by assumption) | exact (by assumption : ∀ f', MM g w0 y nM kd (upw _ nM (.inl (0, 8, .inr (.inl f'))))) _ | exact (by assumption : ∀ (th' rf' md' : Int32), MM g w0 y nM kd (upw _ y (.inr (7, [.int th', .ref nM, .ref _, .ref _, .int rf', .int kd, .int md'])))) _ _ _) (fun _ _ => ?_)
      | with_reducible refine sX3_fixed (by first | assumption | exact CAt.row (by assumption) | exact isRow.ext (by assumption) (by assumption)) ?_ ?_
      | with_reducible refine sX3_small (by first | assumption | exact CAt.row (by assumption) | exact isRow.ext (by assumption) (by assumption)) ?_ ?_
      | with_reducible refine sX3_make (by first | assumption | exact MMz.m (by assumption) | exact MM.fr (by first | assumption | exact MMz.m (by assumption)) (by assumption) | exact MM.ext' (by assumption) (by assumption) | exact (by assumption : ∀ f', MM g w0 y nM kd (upw _ nM (.inl (0, 8, .inr (.inl f'))))) _ | exact (by assumption : ∀ (th' rf' md' : Int32), MM g w0 y nM kd (upw _ y (.inr (7, [.int th', .ref nM, .ref _, .ref _, .int rf', .int kd, .int md'])))) _ _ _) (by assumption) (by assumption) (fun _ _ _ => ?_)
      | with_reducible refine sX3_valid (by first | assumption | exact CAt.row (by assumption) | exact isRow.ext (by assumption) (by assumption)) ?_ ?_
      | with_reducible refine sX3_same (by first | assumption | exact CAt.row (by assumption) | exact isRow.ext (by assumption) (by assumption)) (by first | assumption | exact CAt.row (by assumption) | exact isRow.ext (by assumption) (by assumption)) (fun _ _ => ?_)
      | with_reducible refine sX3_aroundNow (by first | assumption | exact CAt.row (by assumption) | exact isRow.ext (by assumption) (by assumption)) (by assumption) (by assumption) (fun _ => ?_)
      | simp only [eX3_whoNow_0, eX3_whoNow_1, eX3_whoNow_2, eX3_whoNow_3, eX3_whoNow_7, eX3_whoNow_9, eX3_whoNow_12, eX3_whoNow_12N, eX3_whoNow_13, eX3_whoNow_15, eX3_whoNow_18, eX3_whoNow_21, eX3_whoNow_21N, eX3_whoNow_22, eX3_whoNow_25, eX3_whoNow_27, eX3_whoNow_30N, eX3_whoNow_30R, eX3_whoNow_33, eX3_whoNow_33N, eX3_whoNow_34, eX3_whoNow_37, eX3_whoNow_38, eX3_whoNow_39, eX3_whoNow_40, eX3_whoNow_41, eX3_whoNow_44, eX3_whoNow_45, eX3_whoNow_48, eX3_whoNow_49R, eX3_whoNow_49N, eX3_whoNow_52, eX3_whoNow_55, eX3_whoNow_56, eX3_whoNow_57, eX3_whoNow_59, eX3_whoNow_60, eX3_whoNow_61, eX3_whoNow_62, eX3_whoNow_65, eX3_whoNow_68, eX3_whoNow_69, ite_le, n45, n54, true_or, or_true, false_or, or_false, false_and, and_false, kx_l, kx_r, go_s, gl_s, gi_s, gb_s2, gb_s3, gq_s, wt_nil, wt_int, wt_long, wt_ref, wt_null, nl_int, nl_long, nl_ref, nl_null, nl_none, rf_n, rf_s, rf_st, tl_s, tl_n, g0, gS, ex1, nb_b, nb_0, nb_1, nf_i, nf_l, nf_ra, nf_ro, nf_na, nf_no, nf_b0, nf_z0, t45_4, t45_5, true_and, and_true, List.set_cons_zero, List.set_cons_succ, List.length_cons, List.length_nil, rd_s, upw_s, ne_eq, not_false_eq_true, Nat.zero_add, Nat.add_zero, if_true, if_false, eq_self, m10, n4e, upw2q]
      | split
      | with_reducible intro _
      | omega
set_option maxHeartbeats 4000000 in
theorem sX3_whoNow {a c : Int32} (hM : MM g w0 y nM kd w) (k0 : ¬ a < 0) (k1 : ¬ 7 < a) (hQ : ∀ v : Int32, Q (.inl (some (.int v))) w) : WP (MX3_whoNow g) Q (0, [some (.ref y), some (.int a), some (.int c), none, none], [], w, 0, 0) := by
  repeat' first
    | with_reducible assumption
    | with_reducible refine And.intro ?_ ?_
    | with_reducible exact lX3_whoNow_5 hM k0 k1 hQ 70 _ _ _ _ (by first | decide | assumption) (by decide) (by first | decide | omega) (by first | decide | omega)
    | with_reducible exact absurd (by assumption) n10'
    | with_reducible refine sX3_isNoNumber ?_ (fun _ _ => ?_)
    | with_reducible refine sX3_isNoCard ?_ (fun _ _ => ?_)
    | with_reducible refine sX3_isNoEnd ?_ (fun _ _ => ?_)
    | with_reducible refine sX3_isIn (fun _ _ => ?_) ?_
    | with_reducible refine sX3_start (by first | assumption | exact MMz.m (by assumption) | exact MM.fr (by first | assumption | exact MMz.m (by assumption)) (by assumption) | exact MM.ext' (by assumption) (by assumption) | exact (by assumption : ∀ f', MM g w0 y nM kd (upw _ nM (.inl (0, 8, .inr (.inl f'))))) _ | exact (by assumption : ∀ (th' rf' md' : Int32), MM g w0 y nM kd (upw _ y (.inr (7, [.int th', .ref nM, .ref _, .ref _, .int rf', .int kd, .int md'])))) _ _ _) (by decide) (fun _ _ _ => ?_) (fun _ _ => ?_)
    | with_reducible refine sX3_refuse (by assumption) (by decide) (fun _ => ?_) (fun _ _ => ?_)
    | with_reducible refine sX3_isBareM (by first | assumption | exact MMz.m (by assumption) | exact MM.fr (by first | assumption | exact MMz.m (by assumption)) (by assumption) | exact MM.ext' (by assumption) (by assumption) | exact (by assumption : ∀ f', MM g w0 y nM kd (upw _ nM (.inl (0, 8, .inr (.inl f'))))) _ | exact (by assumption : ∀ (th' rf' md' : Int32), MM g w0 y nM kd (upw _ y (.inr (7, [.int th', .ref nM, .ref _, .ref _, .int rf', .int kd, .int md'])))) _ _ _) (by assumption) (by first | assumption | exact lt65 (by assumption)) ?_ (fun _ _ => ?_)
    | with_reducible refine sX3_isNone (by first | assumption | exact MMz.m (by assumption) | exact MM.fr (by first | assumption | exact MMz.m (by assumption)) (by assumption) | exact MM.ext' (by assumption) (by assumption) | exact (by assumption : ∀ f', MM g w0 y nM kd (upw _ nM (.inl (0, 8, .inr (.inl f'))))) _ | exact (by assumption : ∀ (th' rf' md' : Int32), MM g w0 y nM kd (upw _ y (.inr (7, [.int th', .ref nM, .ref _, .ref _, .int rf', .int kd, .int md'])))) _ _ _) (fun _ _ => ?_) (fun _ _ _ _ _ _ => ?_)
    | with_reducible exact vpi8n (by assumption) (by assumption)
    | with_reducible exact vpi4n (by assumption) (by assumption)
    | with_reducible exact vpi4.1
    | with_reducible exact vpi4.2.1
    | with_reducible exact vpi4.2.2.1
    | with_reducible exact vpi4.2.2.2
    | with_reducible refine go_Y (by first | assumption | exact MMz.m (by assumption) | exact MM.fr (by first | assumption | exact MMz.m (by assumption)) (by assumption) | exact MM.ext' (by assumption) (by assumption) | exact (by assumption : ∀ f', MM g w0 y nM kd (upw _ nM (.inl (0, 8, .inr (.inl f'))))) _ | exact (by assumption : ∀ (th' rf' md' : Int32), MM g w0 y nM kd (upw _ y (.inr (7, [.int th', .ref nM, .ref _, .ref _, .int rf', .int kd, .int md'])))) _ _ _) (fun _ _ _ _ _ _ => ?_)
    | with_reducible refine go_Yw (by first | assumption | exact MMz.m (by assumption) | exact MM.fr (by first | assumption | exact MMz.m (by assumption)) (by assumption) | exact MM.ext' (by assumption) (by assumption) | exact (by assumption : ∀ f', MM g w0 y nM kd (upw _ nM (.inl (0, 8, .inr (.inl f'))))) _ | exact (by assumption : ∀ (th' rf' md' : Int32), MM g w0 y nM kd (upw _ y (.inr (7, [.int th', .ref nM, .ref _, .ref _, .int rf', .int kd, .int md'])))) _ _ _) (fun _ _ _ _ _ _ => ?_)
    | with_reducible refine gl_M (by first | assumption | exact MMz.m (by assumption) | exact MM.fr (by first | assumption | exact MMz.m (by assumption)) (by assumption) | exact MM.ext' (by assumption) (by assumption) | exact (by assumption : ∀ f', MM g w0 y nM kd (upw _ nM (.inl (0, 8, .inr (.inl f'))))) _ | exact (by assumption : ∀ (th' rf' md' : Int32), MM g w0 y nM kd (upw _ y (.inr (7, [.int th', .ref nM, .ref _, .ref _, .int rf', .int kd, .int md'])))) _ _ _) ?_
    | with_reducible refine gl_Mw (by first | assumption | exact MMz.m (by assumption) | exact MM.fr (by first | assumption | exact MMz.m (by assumption)) (by assumption) | exact MM.ext' (by assumption) (by assumption) | exact (by assumption : ∀ f', MM g w0 y nM kd (upw _ nM (.inl (0, 8, .inr (.inl f'))))) _ | exact (by assumption : ∀ (th' rf' md' : Int32), MM g w0 y nM kd (upw _ y (.inr (7, [.int th', .ref nM, .ref _, .ref _, .int rf', .int kd, .int md'])))) _ _ _) ?_
    | with_reducible exact gtC (by first | assumption | exact MMz.m (by assumption) | exact MM.fr (by first | assumption | exact MMz.m (by assumption)) (by assumption) | exact MM.ext' (by assumption) (by assumption) | exact (by assumption : ∀ f', MM g w0 y nM kd (upw _ nM (.inl (0, 8, .inr (.inl f'))))) _ | exact (by assumption : ∀ (th' rf' md' : Int32), MM g w0 y nM kd (upw _ y (.inr (7, [.int th', .ref nM, .ref _, .ref _, .int rf', .int kd, .int md'])))) _ _ _) (by first | assumption | exact isY.s | exact isY.fr (by assumption) (by assumption))
    | with_reducible exact gtP (by first | assumption | exact MMz.m (by assumption) | exact MM.fr (by first | assumption | exact MMz.m (by assumption)) (by assumption) | exact MM.ext' (by assumption) (by assumption) | exact (by assumption : ∀ f', MM g w0 y nM kd (upw _ nM (.inl (0, 8, .inr (.inl f'))))) _ | exact (by assumption : ∀ (th' rf' md' : Int32), MM g w0 y nM kd (upw _ y (.inr (7, [.int th', .ref nM, .ref _, .ref _, .int rf', .int kd, .int md'])))) _ _ _) (by first | assumption | exact isY.s | exact isY.fr (by assumption) (by assumption))
    | with_reducible refine gl_Row (by first | assumption | exact CAt.row (by assumption) | exact isRow.ext (by assumption) (by assumption)) (fun _ => ?_)
    | with_reducible exact isRow.ca (by first | assumption | exact CAt.row (by assumption) | exact isRow.ext (by assumption) (by assumption))
    | with_reducible refine sGetY (by first | assumption | exact CAt.fr (by assumption) (by assumption)) (by first | assumption | exact isY.s | exact isY.fr (by assumption) (by assumption)) (by assumption) (by first | assumption | exact lt65 (by assumption)) ?_
    | with_reducible exact hQ _ _ (by first | assumption | exact MMz.m (by assumption) | exact MM.fr (by first | assumption | exact MMz.m (by assumption)) (by assumption) | exact MM.ext' (by assumption) (by assumption) | exact (by assumption : ∀ f', MM g w0 y nM kd (upw _ nM (.inl (0, 8, .inr (.inl f'))))) _ | exact (by assumption : ∀ (th' rf' md' : Int32), MM g w0 y nM kd (upw _ y (.inr (7, [.int th', .ref nM, .ref _, .ref _, .int rf', .int kd, .int md'])))) _ _ _)
    | with_reducible exact hQ _ (by first | assumption | exact MMz.m (by assumption) | exact MM.fr (by first | assumption | exact MMz.m (by assumption)) (by assumption) | exact MM.ext' (by assumption) (by assumption) | exact (by assumption : ∀ f', MM g w0 y nM kd (upw _ nM (.inl (0, 8, .inr (.inl f'))))) _ | exact (by assumption : ∀ (th' rf' md' : Int32), MM g w0 y nM kd (upw _ y (.inr (7, [.int th', .ref nM, .ref _, .ref _, .int rf', .int kd, .int md'])))) _ _ _)
    | with_reducible exact hQ _
    | with_reducible exact n4g
    | with_reducible exact n4a
    | with_reducible exact n4b
    | with_reducible exact n4c
    | with_reducible refine sX3_high (fun _ => ?_)
    | with_reducible refine sX3_low (fun _ => ?_)
    | with_reducible refine sX3_one (fun _ => ?_)
    | with_reducible refine sX3_become (by first | assumption | exact MMz.m (by assumption) | exact MM.fr (by first | assumption | exact MMz.m (by assumption)) (by assumption) | exact MM.ext' (by assumption) (by assumption) | exact (by assumption : ∀ f', MM g w0 y nM kd (upw _ nM (.inl (0, 8, .inr (.inl f'))))) _ | exact (by assumption : ∀ (th' rf' md' : Int32), MM g w0 y nM kd (upw _ y (.inr (7, [.int th', .ref nM, .ref _, .ref _, .int rf', .int kd, .int md'])))) _ _ _) (by assumption) (by assumption) (fun _ _ _ => ?_)
    | with_reducible refine sX3_no (by first | assumption | exact MMz.m (by assumption) | exact MM.fr (by first | assumption | exact MMz.m (by assumption)) (by assumption) | exact MM.ext' (by assumption) (by assumption) | exact (by assumption : ∀ f', MM g w0 y nM kd (upw _ nM (.inl (0, 8, .inr (.inl f'))))) _ | exact (by assumption : ∀ (th' rf' md' : Int32), MM g w0 y nM kd (upw _ y (.inr (7, [.int th', .ref nM, .ref _, .ref _, .int rf', .int kd, .int md'])))) _ _ _) (fun _ _ => ?_)
    | with_reducible refine sX3_fixed (by first | assumption | exact CAt.row (by assumption) | exact isRow.ext (by assumption) (by assumption)) ?_ ?_
    | with_reducible refine sX3_small (by first | assumption | exact CAt.row (by assumption) | exact isRow.ext (by assumption) (by assumption)) ?_ ?_
    | with_reducible refine sX3_make (by first | assumption | exact MMz.m (by assumption) | exact MM.fr (by first | assumption | exact MMz.m (by assumption)) (by assumption) | exact MM.ext' (by assumption) (by assumption) | exact (by assumption : ∀ f', MM g w0 y nM kd (upw _ nM (.inl (0, 8, .inr (.inl f'))))) _ | exact (by assumption : ∀ (th' rf' md' : Int32), MM g w0 y nM kd (upw _ y (.inr (7, [.int th', .ref nM, .ref _, .ref _, .int rf', .int kd, .int md'])))) _ _ _) (by assumption) (by assumption) (fun _ _ _ => ?_)
    | with_reducible refine sX3_valid (by first | assumption | exact CAt.row (by assumption) | exact isRow.ext (by assumption) (by assumption)) ?_ ?_
    | with_reducible refine sX3_same (by first | assumption | exact CAt.row (by assumption) | exact isRow.ext (by assumption) (by assumption)) (by first | assumption | exact CAt.row (by assumption) | exact isRow.ext (by assumption) (by assumption)) (fun _ _ => ?_)
    | with_reducible refine sX3_aroundNow (by first | assumption | exact CAt.row (by assumption) | exact isRow.ext (by assumption) (by assumption)) (by assumption) (by assumption) (fun _ => ?_)
    | simp only [eX3_whoNow_0, eX3_whoNow_1, eX3_whoNow_2, eX3_whoNow_3, eX3_whoNow_7, eX3_whoNow_9, eX3_whoNow_12, eX3_whoNow_12N, eX3_whoNow_13, eX3_whoNow_15, eX3_whoNow_18, eX3_whoNow_21, eX3_whoNow_21N, eX3_whoNow_22, eX3_whoNow_25, eX3_whoNow_27, eX3_whoNow_30N, eX3_whoNow_30R, eX3_whoNow_33, eX3_whoNow_33N, eX3_whoNow_34, eX3_whoNow_37, eX3_whoNow_38, eX3_whoNow_39, eX3_whoNow_40, eX3_whoNow_41, eX3_whoNow_44, eX3_whoNow_45, eX3_whoNow_48, eX3_whoNow_49R, eX3_whoNow_49N, eX3_whoNow_52, eX3_whoNow_55, eX3_whoNow_56, eX3_whoNow_57, eX3_whoNow_59, eX3_whoNow_60, eX3_whoNow_61, eX3_whoNow_62, eX3_whoNow_65, eX3_whoNow_68, eX3_whoNow_69, ite_le, n45, n54, true_or, or_true, false_or, or_false, false_and, and_false, kx_l, kx_r, go_s, gl_s, gi_s, gb_s2, gb_s3, gq_s, wt_nil, wt_int, wt_long, wt_ref, wt_null, nl_int, nl_long, nl_ref, nl_null, nl_none, rf_n, rf_s, rf_st, tl_s, tl_n, g0, gS, ex1, nb_b, nb_0, nb_1, nf_i, nf_l, nf_ra, nf_ro, nf_na, nf_no, nf_b0, nf_z0, t45_4, t45_5, true_and, and_true, List.set_cons_zero, List.set_cons_succ, List.length_cons, List.length_nil, rd_s, upw_s, ne_eq, not_false_eq_true, Nat.zero_add, Nat.add_zero, if_true, if_false, eq_self, m10, n4e, upw2q]
    | split
    | with_reducible intro _
    | omega
set_option maxHeartbeats 4000000 in
theorem lX3_whichNow__4 {a : Int32} (hM : MM g w0 y nM kd w) (hQ : ∀ v : Int32, Q (.inl (some (.int v))) w) : ∀ (d : Nat) (i2 : Int32) (i3 : Int32) (k m : Nat), ¬ i3 < 0 → (6 : Int32).toInt - i3.toInt ≤ (d : Int) → k ≤ 0 → m ≤ 0 → WP (MX3_whichNow_ g) Q (4, [some (.ref y), some (.int a), some (.int i2), some (.int i3)], [], w, k, m) := by
  intro d
  induction d with
  | zero =>
    intro i2 i3 k m z0 hm hk hs
    rw [eX3_whichNow__4]
    repeat' first
      | with_reducible assumption
      | with_reducible refine And.intro ?_ ?_
      | with_reducible exact (ic_z (by assumption) (by assumption)).elim
      | with_reducible exact absurd (by assumption) n10'
      | with_reducible refine sX3_isNoNumber ?_ (fun _ _ => ?_)
      | with_reducible refine sX3_isNoCard ?_ (fun _ _ => ?_)
      | with_reducible refine sX3_isNoEnd ?_ (fun _ _ => ?_)
      | with_reducible refine sX3_isIn (fun _ _ => ?_) ?_
      | with_reducible refine sX3_start (by first | assumption | exact MMz.m (by assumption) | exact MM.fr (by first | assumption | exact MMz.m (by assumption)) (by assumption) | exact MM.ext' (by assumption) (by assumption) | exact (by assumption : ∀ f', MM g w0 y nM kd (upw _ nM (.inl (0, 8, .inr (.inl f'))))) _ | exact (by assumption : ∀ (th' rf' md' : Int32), MM g w0 y nM kd (upw _ y (.inr (7, [.int th', .ref nM, .ref _, .ref _, .int rf', .int kd, .int md'])))) _ _ _) (by decide) (fun _ _ _ => ?_) (fun _ _ => ?_)
      | with_reducible refine sX3_refuse (by assumption) (by decide) (fun _ => ?_) (fun _ _ => ?_)
      | with_reducible refine sX3_isBareM (by first | assumption | exact MMz.m (by assumption) | exact MM.fr (by first | assumption | exact MMz.m (by assumption)) (by assumption) | exact MM.ext' (by assumption) (by assumption) | exact (by assumption : ∀ f', MM g w0 y nM kd (upw _ nM (.inl (0, 8, .inr (.inl f'))))) _ | exact (by assumption : ∀ (th' rf' md' : Int32), MM g w0 y nM kd (upw _ y (.inr (7, [.int th', .ref nM, .ref _, .ref _, .int rf', .int kd, .int md'])))) _ _ _) (by assumption) (by first | assumption | exact lt65 (by assumption)) ?_ (fun _ _ => ?_)
      | with_reducible refine sX3_isNone (by first | assumption | exact MMz.m (by assumption) | exact MM.fr (by first | assumption | exact MMz.m (by assumption)) (by assumption) | exact MM.ext' (by assumption) (by assumption) | exact (by assumption : ∀ f', MM g w0 y nM kd (upw _ nM (.inl (0, 8, .inr (.inl f'))))) _ | exact (by assumption : ∀ (th' rf' md' : Int32), MM g w0 y nM kd (upw _ y (.inr (7, [.int th', .ref nM, .ref _, .ref _, .int rf', .int kd, .int md'])))) _ _ _) (fun _ _ => ?_) (fun _ _ _ _ _ _ => ?_)
      | with_reducible exact vpi8n (by assumption) (by assumption)
      | with_reducible exact vpi4n (by assumption) (by assumption)
      | with_reducible exact vpi4.1
      | with_reducible exact vpi4.2.1
      | with_reducible exact vpi4.2.2.1
      | with_reducible exact vpi4.2.2.2
      | with_reducible refine go_Y (by first | assumption | exact MMz.m (by assumption) | exact MM.fr (by first | assumption | exact MMz.m (by assumption)) (by assumption) | exact MM.ext' (by assumption) (by assumption) | exact (by assumption : ∀ f', MM g w0 y nM kd (upw _ nM (.inl (0, 8, .inr (.inl f'))))) _ | exact (by assumption : ∀ (th' rf' md' : Int32), MM g w0 y nM kd (upw _ y (.inr (7, [.int th', .ref nM, .ref _, .ref _, .int rf', .int kd, .int md'])))) _ _ _) (fun _ _ _ _ _ _ => ?_)
      | with_reducible refine go_Yw (by first | assumption | exact MMz.m (by assumption) | exact MM.fr (by first | assumption | exact MMz.m (by assumption)) (by assumption) | exact MM.ext' (by assumption) (by assumption) | exact (by assumption : ∀ f', MM g w0 y nM kd (upw _ nM (.inl (0, 8, .inr (.inl f'))))) _ | exact (by assumption : ∀ (th' rf' md' : Int32), MM g w0 y nM kd (upw _ y (.inr (7, [.int th', .ref nM, .ref _, .ref _, .int rf', .int kd, .int md'])))) _ _ _) (fun _ _ _ _ _ _ => ?_)
      | with_reducible refine gl_M (by first | assumption | exact MMz.m (by assumption) | exact MM.fr (by first | assumption | exact MMz.m (by assumption)) (by assumption) | exact MM.ext' (by assumption) (by assumption) | exact (by assumption : ∀ f', MM g w0 y nM kd (upw _ nM (.inl (0, 8, .inr (.inl f'))))) _ | exact (by assumption : ∀ (th' rf' md' : Int32), MM g w0 y nM kd (upw _ y (.inr (7, [.int th', .ref nM, .ref _, .ref _, .int rf', .int kd, .int md'])))) _ _ _) ?_
      | with_reducible refine gl_Mw (by first | assumption | exact MMz.m (by assumption) | exact MM.fr (by first | assumption | exact MMz.m (by assumption)) (by assumption) | exact MM.ext' (by assumption) (by assumption) | exact (by assumption : ∀ f', MM g w0 y nM kd (upw _ nM (.inl (0, 8, .inr (.inl f'))))) _ | exact (by assumption : ∀ (th' rf' md' : Int32), MM g w0 y nM kd (upw _ y (.inr (7, [.int th', .ref nM, .ref _, .ref _, .int rf', .int kd, .int md'])))) _ _ _) ?_
      | with_reducible exact gtC (by first | assumption | exact MMz.m (by assumption) | exact MM.fr (by first | assumption | exact MMz.m (by assumption)) (by assumption) | exact MM.ext' (by assumption) (by assumption) | exact (by assumption : ∀ f', MM g w0 y nM kd (upw _ nM (.inl (0, 8, .inr (.inl f'))))) _ | exact (by assumption : ∀ (th' rf' md' : Int32), MM g w0 y nM kd (upw _ y (.inr (7, [.int th', .ref nM, .ref _, .ref _, .int rf', .int kd, .int md'])))) _ _ _) (by first | assumption | exact isY.s | exact isY.fr (by assumption) (by assumption))
      | with_reducible exact gtP (by first | assumption | exact MMz.m (by assumption) | exact MM.fr (by first | assumption | exact MMz.m (by assumption)) (by assumption) | exact MM.ext' (by assumption) (by assumption) | exact (by assumption : ∀ f', MM g w0 y nM kd (upw _ nM (.inl (0, 8, .inr (.inl f'))))) _ | exact (by assumption : ∀ (th' rf' md' : Int32), MM g w0 y nM kd (upw _ y (.inr (7, [.int th', .ref nM, .ref _, .ref _, .int rf', .int kd, .int md'])))) _ _ _) (by first | assumption | exact isY.s | exact isY.fr (by assumption) (by assumption))
      | with_reducible refine gl_Row (by first | assumption | exact CAt.row (by assumption) | exact isRow.ext (by assumption) (by assumption)) (fun _ => ?_)
      | with_reducible exact isRow.ca (by first | assumption | exact CAt.row (by assumption) | exact isRow.ext (by assumption) (by assumption))
      | with_reducible refine sGetY (by first | assumption | exact CAt.fr (by assumption) (by assumption)) (by first | assumption | exact isY.s | exact isY.fr (by assumption) (by assumption)) (by assumption) (by first | assumption | exact lt65 (by assumption)) ?_
      | with_reducible exact hQ _ _ (by first | assumption | exact MMz.m (by assumption) | exact MM.fr (by first | assumption | exact MMz.m (by assumption)) (by assumption) | exact MM.ext' (by assumption) (by assumption) | exact (by assumption : ∀ f', MM g w0 y nM kd (upw _ nM (.inl (0, 8, .inr (.inl f'))))) _ | exact (by assumption : ∀ (th' rf' md' : Int32), MM g w0 y nM kd (upw _ y (.inr (7, [.int th', .ref nM, .ref _, .ref _, .int rf', .int kd, .int md'])))) _ _ _)
      | with_reducible exact hQ _ (by first | assumption | exact MMz.m (by assumption) | exact MM.fr (by first | assumption | exact MMz.m (by assumption)) (by assumption) | exact MM.ext' (by assumption) (by assumption) | exact (by assumption : ∀ f', MM g w0 y nM kd (upw _ nM (.inl (0, 8, .inr (.inl f'))))) _ | exact (by assumption : ∀ (th' rf' md' : Int32), MM g w0 y nM kd (upw _ y (.inr (7, [.int th', .ref nM, .ref _, .ref _, .int rf', .int kd, .int md'])))) _ _ _)
      | with_reducible exact hQ _
      | with_reducible exact n4g
      | with_reducible exact n4a
      | with_reducible exact n4b
      | with_reducible exact n4c
      | with_reducible refine sX3_high (fun _ => ?_)
      | with_reducible refine sX3_low (fun _ => ?_)
      | with_reducible refine sX3_one (fun _ => ?_)
      | with_reducible refine sX3_become (by first | assumption | exact MMz.m (by assumption) | exact MM.fr (by first | assumption | exact MMz.m (by assumption)) (by assumption) | exact MM.ext' (by assumption) (by assumption) | exact (by assumption : ∀ f', MM g w0 y nM kd (upw _ nM (.inl (0, 8, .inr (.inl f'))))) _ | exact (by assumption : ∀ (th' rf' md' : Int32), MM g w0 y nM kd (upw _ y (.inr (7, [.int th', .ref nM, .ref _, .ref _, .int rf', .int kd, .int md'])))) _ _ _) (by assumption) (by assumption) (fun _ _ _ => ?_)
      | with_reducible refine sX3_no (by first | assumption | exact MMz.m (by assumption) | exact MM.fr (by first | assumption | exact MMz.m (by assumption)) (by assumption) | exact MM.ext' (by assumption) (by assumption) | exact (by assumption : ∀ f', MM g w0 y nM kd (upw _ nM (.inl (0, 8, .inr (.inl f'))))) _ | exact (by assumption : ∀ (th' rf' md' : Int32), MM g w0 y nM kd (upw _ y (.inr (7, [.int th', .ref nM, .ref _, .ref _, .int rf', .int kd, .int md'])))) _ _ _) (fun _ _ => ?_)
      | with_reducible refine sX3_fixed (by first | assumption | exact CAt.row (by assumption) | exact isRow.ext (by assumption) (by assumption)) ?_ ?_
      | with_reducible refine sX3_small (by first | assumption | exact CAt.row (by assumption) | exact isRow.ext (by assumption) (by assumption)) ?_ ?_
      | with_reducible refine sX3_make (by first | assumption | exact MMz.m (by assumption) | exact MM.fr (by first | assumption | exact MMz.m (by assumption)) (by assumption) | exact MM.ext' (by assumption) (by assumption) | exact (by assumption : ∀ f', MM g w0 y nM kd (upw _ nM (.inl (0, 8, .inr (.inl f'))))) _ | exact (by assumption : ∀ (th' rf' md' : Int32), MM g w0 y nM kd (upw _ y (.inr (7, [.int th', .ref nM, .ref _, .ref _, .int rf', .int kd, .int md'])))) _ _ _) (by assumption) (by assumption) (fun _ _ _ => ?_)
      | with_reducible refine sX3_valid (by first | assumption | exact CAt.row (by assumption) | exact isRow.ext (by assumption) (by assumption)) ?_ ?_
      | with_reducible refine sX3_same (by first | assumption | exact CAt.row (by assumption) | exact isRow.ext (by assumption) (by assumption)) (by first | assumption | exact CAt.row (by assumption) | exact isRow.ext (by assumption) (by assumption)) (fun _ _ => ?_)
      | with_reducible refine sX3_aroundNow (by first | assumption | exact CAt.row (by assumption) | exact isRow.ext (by assumption) (by assumption)) (by assumption) (by assumption) (fun _ => ?_)
      | simp only [eX3_whichNow__0, eX3_whichNow__1, eX3_whichNow__2, eX3_whichNow__3, eX3_whichNow__5, eX3_whichNow__7, eX3_whichNow__10, eX3_whichNow__10N, eX3_whichNow__11, eX3_whichNow__12, eX3_whichNow__15, eX3_whichNow__18, eX3_whichNow__19, eX3_whichNow__22, eX3_whichNow__23, eX3_whichNow__24, eX3_whichNow__27, eX3_whichNow__27N, eX3_whichNow__28, eX3_whichNow__31, eX3_whichNow__32, eX3_whichNow__35N, eX3_whichNow__35R, eX3_whichNow__38R, eX3_whichNow__38N, eX3_whichNow__41, eX3_whichNow__44, eX3_whichNow__47, eX3_whichNow__47N, eX3_whichNow__48, eX3_whichNow__51, eX3_whichNow__52, eX3_whichNow__55N, eX3_whichNow__55R, eX3_whichNow__58R, eX3_whichNow__58N, eX3_whichNow__61, eX3_whichNow__64, eX3_whichNow__65, eX3_whichNow__66, eX3_whichNow__67, eX3_whichNow__68, eX3_whichNow__69, eX3_whichNow__70, eX3_whichNow__73, eX3_whichNow__76, eX3_whichNow__77, ite_le, n45, n54, true_or, or_true, false_or, or_false, false_and, and_false, kx_l, kx_r, go_s, gl_s, gi_s, gb_s2, gb_s3, gq_s, wt_nil, wt_int, wt_long, wt_ref, wt_null, nl_int, nl_long, nl_ref, nl_null, nl_none, rf_n, rf_s, rf_st, tl_s, tl_n, g0, gS, ex1, nb_b, nb_0, nb_1, nf_i, nf_l, nf_ra, nf_ro, nf_na, nf_no, nf_b0, nf_z0, t45_4, t45_5, true_and, and_true, List.set_cons_zero, List.set_cons_succ, List.length_cons, List.length_nil, rd_s, upw_s, ne_eq, not_false_eq_true, Nat.zero_add, Nat.add_zero, if_true, if_false, eq_self, m10, n4e, upw2q]
      | split
      | with_reducible intro _
      | omega
  | succ d ih =>
    intro i2 i3 k m z0 hm hk hs
    rw [eX3_whichNow__4]
    repeat' first
      | with_reducible assumption
      | with_reducible refine And.intro ?_ ?_
      | with_reducible exact ih _ _ _ _ (ic_p (by assumption) (by assumption)) (ic_s (by assumption) (by assumption)) (by first | assumption | omega) (by first | assumption | omega)
      | with_reducible exact absurd (by assumption) n10'
      | with_reducible refine sX3_isNoNumber ?_ (fun _ _ => ?_)
      | with_reducible refine sX3_isNoCard ?_ (fun _ _ => ?_)
      | with_reducible refine sX3_isNoEnd ?_ (fun _ _ => ?_)
      | with_reducible refine sX3_isIn (fun _ _ => ?_) ?_
      | with_reducible refine sX3_start (by first | assumption | exact MMz.m (by assumption) | exact MM.fr (by first | assumption | exact MMz.m (by assumption)) (by assumption) | exact MM.ext' (by assumption) (by assumption) | exact (by assumption : ∀ f', MM g w0 y nM kd (upw _ nM (.inl (0, 8, .inr (.inl f'))))) _ | exact (by assumption : ∀ (th' rf' md' : Int32), MM g w0 y nM kd (upw _ y (.inr (7, [.int th', .ref nM, .ref _, .ref _, .int rf', .int kd, .int md'])))) _ _ _) (by decide) (fun _ _ _ => ?_) (fun _ _ => ?_)
      | with_reducible refine sX3_refuse (by assumption) (by decide) (fun _ => ?_) (fun _ _ => ?_)
      | with_reducible refine sX3_isBareM (by first | assumption | exact MMz.m (by assumption) | exact MM.fr (by first | assumption | exact MMz.m (by assumption)) (by assumption) | exact MM.ext' (by assumption) (by assumption) | exact (by assumption : ∀ f', MM g w0 y nM kd (upw _ nM (.inl (0, 8, .inr (.inl f'))))) _ | exact (by assumption : ∀ (th' rf' md' : Int32), MM g w0 y nM kd (upw _ y (.inr (7, [.int th', .ref nM, .ref _, .ref _, .int rf', .int kd, .int md'])))) _ _ _) (by assumption) (by first | assumption | exact lt65 (by assumption)) ?_ (fun _ _ => ?_)
      | with_reducible refine sX3_isNone (by first | assumption | exact MMz.m (by assumption) | exact MM.fr (by first | assumption | exact MMz.m (by assumption)) (by assumption) | exact MM.ext' (by assumption) (by assumption) | exact (by assumption : ∀ f', MM g w0 y nM kd (upw _ nM (.inl (0, 8, .inr (.inl f'))))) _ | exact (by assumption : ∀ (th' rf' md' : Int32), MM g w0 y nM kd (upw _ y (.inr (7, [.int th', .ref nM, .ref _, .ref _, .int rf', .int kd, .int md'])))) _ _ _) (fun _ _ => ?_) (fun _ _ _ _ _ _ => ?_)
      | with_reducible exact vpi8n (by assumption) (by assumption)
      | with_reducible exact vpi4n (by assumption) (by assumption)
      | with_reducible exact vpi4.1
      | with_reducible exact vpi4.2.1
      | with_reducible exact vpi4.2.2.1
      | with_reducible exact vpi4.2.2.2
      | with_reducible refine go_Y (by first | assumption | exact MMz.m (by assumption) | exact MM.fr (by first | assumption | exact MMz.m (by assumption)) (by assumption) | exact MM.ext' (by assumption) (by assumption) | exact (by assumption : ∀ f', MM g w0 y nM kd (upw _ nM (.inl (0, 8, .inr (.inl f'))))) _ | exact (by assumption : ∀ (th' rf' md' : Int32), MM g w0 y nM kd (upw _ y (.inr (7, [.int th', .ref nM, .ref _, .ref _, .int rf', .int kd, .int md'])))) _ _ _) (fun _ _ _ _ _ _ => ?_)
      | with_reducible refine go_Yw (by first | assumption | exact MMz.m (by assumption) | exact MM.fr (by first | assumption | exact MMz.m (by assumption)) (by assumption) | exact MM.ext' (by assumption) (by assumption) | exact (by assumption : ∀ f', MM g w0 y nM kd (upw _ nM (.inl (0, 8, .inr (.inl f'))))) _ | exact (by assumption : ∀ (th' rf' md' : Int32), MM g w0 y nM kd (upw _ y (.inr (7, [.int th', .ref nM, .ref _, .ref _, .int rf', .int kd, .int md'])))) _ _ _) (fun _ _ _ _ _ _ => ?_)
      | with_reducible refine gl_M (by first | assumption | exact MMz.m (by assumption) | exact MM.fr (by first | assumption | exact MMz.m (by assumption)) (by assumption) | exact MM.ext' (by assumption) (by assumption) | exact (by assumption : ∀ f', MM g w0 y nM kd (upw _ nM (.inl (0, 8, .inr (.inl f'))))) _ | exact (by assumption : ∀ (th' rf' md' : Int32), MM g w0 y nM kd (upw _ y (.inr (7, [.int th', .ref nM, .ref _, .ref _, .int rf', .int kd, .int md'])))) _ _ _) ?_
      | with_reducible refine gl_Mw (by first | assumption | exact MMz.m (by assumption) | exact MM.fr (by first | assumption | exact MMz.m (by assumption)) (by assumption) | exact MM.ext' (by assumption) (by assumption) | exact (by assumption : ∀ f', MM g w0 y nM kd (upw _ nM (.inl (0, 8, .inr (.inl f'))))) _ | exact (by assumption : ∀ (th' rf' md' : Int32), MM g w0 y nM kd (upw _ y (.inr (7, [.int th', .ref nM, .ref _, .ref _, .int rf', .int kd, .int md'])))) _ _ _) ?_
      | with_reducible exact gtC (by first | assumption | exact MMz.m (by assumption) | exact MM.fr (by first | assumption | exact MMz.m (by assumption)) (by assumption) | exact MM.ext' (by assumption) (by assumption) | exact (by assumption : ∀ f', MM g w0 y nM kd (upw _ nM (.inl (0, 8, .inr (.inl f'))))) _ | exact (by assumption : ∀ (th' rf' md' : Int32), MM g w0 y nM kd (upw _ y (.inr (7, [.int th', .ref nM, .ref _, .ref _, .int rf', .int kd, .int md'])))) _ _ _) (by first | assumption | exact isY.s | exact isY.fr (by assumption) (by assumption))
      | with_reducible exact gtP (by first | assumption | exact MMz.m (by assumption) | exact MM.fr (by first | assumption | exact MMz.m (by assumption)) (by assumption) | exact MM.ext' (by assumption) (by assumption) | exact (by assumption : ∀ f', MM g w0 y nM kd (upw _ nM (.inl (0, 8, .inr (.inl f'))))) _ | exact (by assumption : ∀ (th' rf' md' : Int32), MM g w0 y nM kd (upw _ y (.inr (7, [.int th', .ref nM, .ref _, .ref _, .int rf', .int kd, .int md'])))) _ _ _) (by first | assumption | exact isY.s | exact isY.fr (by assumption) (by assumption))
      | with_reducible refine gl_Row (by first | assumption | exact CAt.row (by assumption) | exact isRow.ext (by assumption) (by assumption)) (fun _ => ?_)
      | with_reducible exact isRow.ca (by first | assumption | exact CAt.row (by assumption) | exact isRow.ext (by assumption) (by assumption))
      | with_reducible refine sGetY (by first | assumption | exact CAt.fr (by assumption) (by assumption)) (by first | assumption | exact isY.s | exact isY.fr (by assumption) (by assumption)) (by assumption) (by first | assumption | exact lt65 (by assumption)) ?_
      | with_reducible exact hQ _ _ (by first | assumption | exact MMz.m (by assumption) | exact MM.fr (by first | assumption | exact MMz.m (by assumption)) (by assumption) | exact MM.ext' (by assumption) (by assumption) | exact (by assumption : ∀ f', MM g w0 y nM kd (upw _ nM (.inl (0, 8, .inr (.inl f'))))) _ | exact (by assumption : ∀ (th' rf' md' : Int32), MM g w0 y nM kd (upw _ y (.inr (7, [.int th', .ref nM, .ref _, .ref _, .int rf', .int kd, .int md'])))) _ _ _)
      | with_reducible exact hQ _ (by first | assumption | exact MMz.m (by assumption) | exact MM.fr (by first | assumption | exact MMz.m (by assumption)) (by assumption) | exact MM.ext' (by assumption) (by assumption) | exact (by assumption : ∀ f', MM g w0 y nM kd (upw _ nM (.inl (0, 8, .inr (.inl f'))))) _ | exact (by assumption : ∀ (th' rf' md' : Int32), MM g w0 y nM kd (upw _ y (.inr (7, [.int th', .ref nM, .ref _, .ref _, .int rf', .int kd, .int md'])))) _ _ _)
      | with_reducible exact hQ _
      | with_reducible exact n4g
      | with_reducible exact n4a
      | with_reducible exact n4b
      | with_reducible exact n4c
      | with_reducible refine sX3_high (fun _ => ?_)
      | with_reducible refine sX3_low (fun _ => ?_)
      | with_reducible refine sX3_one (fun _ => ?_)
      | with_reducible refine sX3_become (by first | assumption | exact MMz.m (by assumption) | exact MM.fr (by first | assumption | exact MMz.m (by assumption)) (by assumption) | exact MM.ext' (by assumption) (by assumption) | exact (by assumption : ∀ f', MM g w0 y nM kd (upw _ nM (.inl (0, 8, .inr (.inl f'))))) _ | exact (by assumption : ∀ (th' rf' md' : Int32), MM g w0 y nM kd (upw _ y (.inr (7, [.int th', .ref nM, .ref _, .ref _, .int rf', .int kd, .int md'])))) _ _ _) (by assumption) (by assumption) (fun _ _ _ => ?_)
      | with_reducible refine sX3_no (by first | assumption | exact MMz.m (by assumption) | exact MM.fr (by first | assumption | exact MMz.m (by assumption)) (by assumption) | exact MM.ext' (by assumption) (by assumption) | exact (by assumption : ∀ f', MM g w0 y nM kd (upw _ nM (.inl (0, 8, .inr (.inl f'))))) _ | exact (by assumption : ∀ (th' rf' md' : Int32), MM g w0 y nM kd (upw _ y (.inr (7, [.int th', .ref nM, .ref _, .ref _, .int rf', .int kd, .int md'])))) _ _ _) (fun _ _ => ?_)
      | with_reducible refine sX3_fixed (by first | assumption | exact CAt.row (by assumption) | exact isRow.ext (by assumption) (by assumption)) ?_ ?_
      | with_reducible refine sX3_small (by first | assumption | exact CAt.row (by assumption) | exact isRow.ext (by assumption) (by assumption)) ?_ ?_
      | with_reducible refine sX3_make (by first | assumption | exact MMz.m (by assumption) | exact MM.fr (by first | assumption | exact MMz.m (by assumption)) (by assumption) | exact MM.ext' (by assumption) (by assumption) | exact (by assumption : ∀ f', MM g w0 y nM kd (upw _ nM (.inl (0, 8, .inr (.inl f'))))) _ | exact (by assumption : ∀ (th' rf' md' : Int32), MM g w0 y nM kd (upw _ y (.inr (7, [.int th', .ref nM, .ref _, .ref _, .int rf', .int kd, .int md'])))) _ _ _) (by assumption) (by assumption) (fun _ _ _ => ?_)
      | with_reducible refine sX3_valid (by first | assumption | exact CAt.row (by assumption) | exact isRow.ext (by assumption) (by assumption)) ?_ ?_
      | with_reducible refine sX3_same (by first | assumption | exact CAt.row (by assumption) | exact isRow.ext (by assumption) (by assumption)) (by first | assumption | exact CAt.row (by assumption) | exact isRow.ext (by assumption) (by assumption)) (fun _ _ => ?_)
      | with_reducible refine sX3_aroundNow (by first | assumption | exact CAt.row (by assumption) | exact isRow.ext (by assumption) (by assumption)) (by assumption) (by assumption) (fun _ => ?_)
      | simp only [eX3_whichNow__0, eX3_whichNow__1, eX3_whichNow__2, eX3_whichNow__3, eX3_whichNow__5, eX3_whichNow__7, eX3_whichNow__10, eX3_whichNow__10N, eX3_whichNow__11, eX3_whichNow__12, eX3_whichNow__15, eX3_whichNow__18, eX3_whichNow__19, eX3_whichNow__22, eX3_whichNow__23, eX3_whichNow__24, eX3_whichNow__27, eX3_whichNow__27N, eX3_whichNow__28, eX3_whichNow__31, eX3_whichNow__32, eX3_whichNow__35N, eX3_whichNow__35R, eX3_whichNow__38R, eX3_whichNow__38N, eX3_whichNow__41, eX3_whichNow__44, eX3_whichNow__47, eX3_whichNow__47N, eX3_whichNow__48, eX3_whichNow__51, eX3_whichNow__52, eX3_whichNow__55N, eX3_whichNow__55R, eX3_whichNow__58R, eX3_whichNow__58N, eX3_whichNow__61, eX3_whichNow__64, eX3_whichNow__65, eX3_whichNow__66, eX3_whichNow__67, eX3_whichNow__68, eX3_whichNow__69, eX3_whichNow__70, eX3_whichNow__73, eX3_whichNow__76, eX3_whichNow__77, ite_le, n45, n54, true_or, or_true, false_or, or_false, false_and, and_false, kx_l, kx_r, go_s, gl_s, gi_s, gb_s2, gb_s3, gq_s, wt_nil, wt_int, wt_long, wt_ref, wt_null, nl_int, nl_long, nl_ref, nl_null, nl_none, rf_n, rf_s, rf_st, tl_s, tl_n, g0, gS, ex1, nb_b, nb_0, nb_1, nf_i, nf_l, nf_ra, nf_ro, nf_na, nf_no, nf_b0, nf_z0, t45_4, t45_5, true_and, and_true, List.set_cons_zero, List.set_cons_succ, List.length_cons, List.length_nil, rd_s, upw_s, ne_eq, not_false_eq_true, Nat.zero_add, Nat.add_zero, if_true, if_false, eq_self, m10, n4e, upw2q]
      | split
      | with_reducible intro _
      | omega
set_option maxHeartbeats 4000000 in
theorem sX3_whichNow_ {a : Int32} (hM : MM g w0 y nM kd w) (hQ : ∀ v : Int32, Q (.inl (some (.int v))) w) : WP (MX3_whichNow_ g) Q (0, [some (.ref y), some (.int a), none, none], [], w, 0, 0) := by
  repeat' first
    | with_reducible assumption
    | with_reducible refine And.intro ?_ ?_
    | with_reducible exact lX3_whichNow__4 hM hQ 70 _ _ _ _ (by first | decide | assumption) (by decide) (by first | decide | omega) (by first | decide | omega)
    | with_reducible exact absurd (by assumption) n10'
    | with_reducible refine sX3_isNoNumber ?_ (fun _ _ => ?_)
    | with_reducible refine sX3_isNoCard ?_ (fun _ _ => ?_)
    | with_reducible refine sX3_isNoEnd ?_ (fun _ _ => ?_)
    | with_reducible refine sX3_isIn (fun _ _ => ?_) ?_
    | with_reducible refine sX3_start (by first | assumption | exact MMz.m (by assumption) | exact MM.fr (by first | assumption | exact MMz.m (by assumption)) (by assumption) | exact MM.ext' (by assumption) (by assumption) | exact (by assumption : ∀ f', MM g w0 y nM kd (upw _ nM (.inl (0, 8, .inr (.inl f'))))) _ | exact (by assumption : ∀ (th' rf' md' : Int32), MM g w0 y nM kd (upw _ y (.inr (7, [.int th', .ref nM, .ref _, .ref _, .int rf', .int kd, .int md'])))) _ _ _) (by decide) (fun _ _ _ => ?_) (fun _ _ => ?_)
    | with_reducible refine sX3_refuse (by assumption) (by decide) (fun _ => ?_) (fun _ _ => ?_)
    | with_reducible refine sX3_isBareM (by first | assumption | exact MMz.m (by assumption) | exact MM.fr (by first | assumption | exact MMz.m (by assumption)) (by assumption) | exact MM.ext' (by assumption) (by assumption) | exact (by assumption : ∀ f', MM g w0 y nM kd (upw _ nM (.inl (0, 8, .inr (.inl f'))))) _ | exact (by assumption : ∀ (th' rf' md' : Int32), MM g w0 y nM kd (upw _ y (.inr (7, [.int th', .ref nM, .ref _, .ref _, .int rf', .int kd, .int md'])))) _ _ _) (by assumption) (by first | assumption | exact lt65 (by assumption)) ?_ (fun _ _ => ?_)
    | with_reducible refine sX3_isNone (by first | assumption | exact MMz.m (by assumption) | exact MM.fr (by first | assumption | exact MMz.m (by assumption)) (by assumption) | exact MM.ext' (by assumption) (by assumption) | exact (by assumption : ∀ f', MM g w0 y nM kd (upw _ nM (.inl (0, 8, .inr (.inl f'))))) _ | exact (by assumption : ∀ (th' rf' md' : Int32), MM g w0 y nM kd (upw _ y (.inr (7, [.int th', .ref nM, .ref _, .ref _, .int rf', .int kd, .int md'])))) _ _ _) (fun _ _ => ?_) (fun _ _ _ _ _ _ => ?_)
    | with_reducible exact vpi8n (by assumption) (by assumption)
    | with_reducible exact vpi4n (by assumption) (by assumption)
    | with_reducible exact vpi4.1
    | with_reducible exact vpi4.2.1
    | with_reducible exact vpi4.2.2.1
    | with_reducible exact vpi4.2.2.2
    | with_reducible refine go_Y (by first | assumption | exact MMz.m (by assumption) | exact MM.fr (by first | assumption | exact MMz.m (by assumption)) (by assumption) | exact MM.ext' (by assumption) (by assumption) | exact (by assumption : ∀ f', MM g w0 y nM kd (upw _ nM (.inl (0, 8, .inr (.inl f'))))) _ | exact (by assumption : ∀ (th' rf' md' : Int32), MM g w0 y nM kd (upw _ y (.inr (7, [.int th', .ref nM, .ref _, .ref _, .int rf', .int kd, .int md'])))) _ _ _) (fun _ _ _ _ _ _ => ?_)
    | with_reducible refine go_Yw (by first | assumption | exact MMz.m (by assumption) | exact MM.fr (by first | assumption | exact MMz.m (by assumption)) (by assumption) | exact MM.ext' (by assumption) (by assumption) | exact (by assumption : ∀ f', MM g w0 y nM kd (upw _ nM (.inl (0, 8, .inr (.inl f'))))) _ | exact (by assumption : ∀ (th' rf' md' : Int32), MM g w0 y nM kd (upw _ y (.inr (7, [.int th', .ref nM, .ref _, .ref _, .int rf', .int kd, .int md'])))) _ _ _) (fun _ _ _ _ _ _ => ?_)
    | with_reducible refine gl_M (by first | assumption | exact MMz.m (by assumption) | exact MM.fr (by first | assumption | exact MMz.m (by assumption)) (by assumption) | exact MM.ext' (by assumption) (by assumption) | exact (by assumption : ∀ f', MM g w0 y nM kd (upw _ nM (.inl (0, 8, .inr (.inl f'))))) _ | exact (by assumption : ∀ (th' rf' md' : Int32), MM g w0 y nM kd (upw _ y (.inr (7, [.int th', .ref nM, .ref _, .ref _, .int rf', .int kd, .int md'])))) _ _ _) ?_
    | with_reducible refine gl_Mw (by first | assumption | exact MMz.m (by assumption) | exact MM.fr (by first | assumption | exact MMz.m (by assumption)) (by assumption) | exact MM.ext' (by assumption) (by assumption) | exact (by assumption : ∀ f', MM g w0 y nM kd (upw _ nM (.inl (0, 8, .inr (.inl f'))))) _ | exact (by assumption : ∀ (th' rf' md' : Int32), MM g w0 y nM kd (upw _ y (.inr (7, [.int th', .ref nM, .ref _, .ref _, .int rf', .int kd, .int md'])))) _ _ _) ?_
    | with_reducible exact gtC (by first | assumption | exact MMz.m (by assumption) | exact MM.fr (by first | assumption | exact MMz.m (by assumption)) (by assumption) | exact MM.ext' (by assumption) (by assumption) | exact (by assumption : ∀ f', MM g w0 y nM kd (upw _ nM (.inl (0, 8, .inr (.inl f'))))) _ | exact (by assumption : ∀ (th' rf' md' : Int32), MM g w0 y nM kd (upw _ y (.inr (7, [.int th', .ref nM, .ref _, .ref _, .int rf', .int kd, .int md'])))) _ _ _) (by first | assumption | exact isY.s | exact isY.fr (by assumption) (by assumption))
    | with_reducible exact gtP (by first | assumption | exact MMz.m (by assumption) | exact MM.fr (by first | assumption | exact MMz.m (by assumption)) (by assumption) | exact MM.ext' (by assumption) (by assumption) | exact (by assumption : ∀ f', MM g w0 y nM kd (upw _ nM (.inl (0, 8, .inr (.inl f'))))) _ | exact (by assumption : ∀ (th' rf' md' : Int32), MM g w0 y nM kd (upw _ y (.inr (7, [.int th', .ref nM, .ref _, .ref _, .int rf', .int kd, .int md'])))) _ _ _) (by first | assumption | exact isY.s | exact isY.fr (by assumption) (by assumption))
    | with_reducible refine gl_Row (by first | assumption | exact CAt.row (by assumption) | exact isRow.ext (by assumption) (by assumption)) (fun _ => ?_)
    | with_reducible exact isRow.ca (by first | assumption | exact CAt.row (by assumption) | exact isRow.ext (by assumption) (by assumption))
    | with_reducible refine sGetY (by first | assumption | exact CAt.fr (by assumption) (by assumption)) (by first | assumption | exact isY.s | exact isY.fr (by assumption) (by assumption)) (by assumption) (by first | assumption | exact lt65 (by assumption)) ?_
    | with_reducible exact hQ _ _ (by first | assumption | exact MMz.m (by assumption) | exact MM.fr (by first | assumption | exact MMz.m (by assumption)) (by assumption) | exact MM.ext' (by assumption) (by assumption) | exact (by assumption : ∀ f', MM g w0 y nM kd (upw _ nM (.inl (0, 8, .inr (.inl f'))))) _ | exact (by assumption : ∀ (th' rf' md' : Int32), MM g w0 y nM kd (upw _ y (.inr (7, [.int th', .ref nM, .ref _, .ref _, .int rf', .int kd, .int md'])))) _ _ _)
    | with_reducible exact hQ _ (by first | assumption | exact MMz.m (by assumption) | exact MM.fr (by first | assumption | exact MMz.m (by assumption)) (by assumption) | exact MM.ext' (by assumption) (by assumption) | exact (by assumption : ∀ f', MM g w0 y nM kd (upw _ nM (.inl (0, 8, .inr (.inl f'))))) _ | exact (by assumption : ∀ (th' rf' md' : Int32), MM g w0 y nM kd (upw _ y (.inr (7, [.int th', .ref nM, .ref _, .ref _, .int rf', .int kd, .int md'])))) _ _ _)
    | with_reducible exact hQ _
    | with_reducible exact n4g
    | with_reducible exact n4a
    | with_reducible exact n4b
    | with_reducible exact n4c
    | with_reducible refine sX3_high (fun _ => ?_)
    | with_reducible refine sX3_low (fun _ => ?_)
    | with_reducible refine sX3_one (fun _ => ?_)
    | with_reducible refine sX3_become (by first | assumption | exact MMz.m (by assumption) | exact MM.fr (by first | assumption | exact MMz.m (by assumption)) (by assumption) | exact MM.ext' (by assumption) (by assumption) | exact (by assumption : ∀ f', MM g w0 y nM kd (upw _ nM (.inl (0, 8, .inr (.inl f'))))) _ | exact (by assumption : ∀ (th' rf' md' : Int32), MM g w0 y nM kd (upw _ y (.inr (7, [.int th', .ref nM, .ref _, .ref _, .int rf', .int kd, .int md'])))) _ _ _) (by assumption) (by assumption) (fun _ _ _ => ?_)
    | with_reducible refine sX3_no (by first | assumption | exact MMz.m (by assumption) | exact MM.fr (by first | assumption | exact MMz.m (by assumption)) (by assumption) | exact MM.ext' (by assumption) (by assumption) | exact (by assumption : ∀ f', MM g w0 y nM kd (upw _ nM (.inl (0, 8, .inr (.inl f'))))) _ | exact (by assumption : ∀ (th' rf' md' : Int32), MM g w0 y nM kd (upw _ y (.inr (7, [.int th', .ref nM, .ref _, .ref _, .int rf', .int kd, .int md'])))) _ _ _) (fun _ _ => ?_)
    | with_reducible refine sX3_fixed (by first | assumption | exact CAt.row (by assumption) | exact isRow.ext (by assumption) (by assumption)) ?_ ?_
    | with_reducible refine sX3_small (by first | assumption | exact CAt.row (by assumption) | exact isRow.ext (by assumption) (by assumption)) ?_ ?_
    | with_reducible refine sX3_make (by first | assumption | exact MMz.m (by assumption) | exact MM.fr (by first | assumption | exact MMz.m (by assumption)) (by assumption) | exact MM.ext' (by assumption) (by assumption) | exact (by assumption : ∀ f', MM g w0 y nM kd (upw _ nM (.inl (0, 8, .inr (.inl f'))))) _ | exact (by assumption : ∀ (th' rf' md' : Int32), MM g w0 y nM kd (upw _ y (.inr (7, [.int th', .ref nM, .ref _, .ref _, .int rf', .int kd, .int md'])))) _ _ _) (by assumption) (by assumption) (fun _ _ _ => ?_)
    | with_reducible refine sX3_valid (by first | assumption | exact CAt.row (by assumption) | exact isRow.ext (by assumption) (by assumption)) ?_ ?_
    | with_reducible refine sX3_same (by first | assumption | exact CAt.row (by assumption) | exact isRow.ext (by assumption) (by assumption)) (by first | assumption | exact CAt.row (by assumption) | exact isRow.ext (by assumption) (by assumption)) (fun _ _ => ?_)
    | with_reducible refine sX3_aroundNow (by first | assumption | exact CAt.row (by assumption) | exact isRow.ext (by assumption) (by assumption)) (by assumption) (by assumption) (fun _ => ?_)
    | simp only [eX3_whichNow__0, eX3_whichNow__1, eX3_whichNow__2, eX3_whichNow__3, eX3_whichNow__5, eX3_whichNow__7, eX3_whichNow__10, eX3_whichNow__10N, eX3_whichNow__11, eX3_whichNow__12, eX3_whichNow__15, eX3_whichNow__18, eX3_whichNow__19, eX3_whichNow__22, eX3_whichNow__23, eX3_whichNow__24, eX3_whichNow__27, eX3_whichNow__27N, eX3_whichNow__28, eX3_whichNow__31, eX3_whichNow__32, eX3_whichNow__35N, eX3_whichNow__35R, eX3_whichNow__38R, eX3_whichNow__38N, eX3_whichNow__41, eX3_whichNow__44, eX3_whichNow__47, eX3_whichNow__47N, eX3_whichNow__48, eX3_whichNow__51, eX3_whichNow__52, eX3_whichNow__55N, eX3_whichNow__55R, eX3_whichNow__58R, eX3_whichNow__58N, eX3_whichNow__61, eX3_whichNow__64, eX3_whichNow__65, eX3_whichNow__66, eX3_whichNow__67, eX3_whichNow__68, eX3_whichNow__69, eX3_whichNow__70, eX3_whichNow__73, eX3_whichNow__76, eX3_whichNow__77, ite_le, n45, n54, true_or, or_true, false_or, or_false, false_and, and_false, kx_l, kx_r, go_s, gl_s, gi_s, gb_s2, gb_s3, gq_s, wt_nil, wt_int, wt_long, wt_ref, wt_null, nl_int, nl_long, nl_ref, nl_null, nl_none, rf_n, rf_s, rf_st, tl_s, tl_n, g0, gS, ex1, nb_b, nb_0, nb_1, nf_i, nf_l, nf_ra, nf_ro, nf_na, nf_no, nf_b0, nf_z0, t45_4, t45_5, true_and, and_true, List.set_cons_zero, List.set_cons_succ, List.length_cons, List.length_nil, rd_s, upw_s, ne_eq, not_false_eq_true, Nat.zero_add, Nat.add_zero, if_true, if_false, eq_self, m10, n4e, upw2q]
    | split
    | with_reducible intro _
    | omega
set_option maxHeartbeats 4000000 in
theorem lX3_likesNow_4 {a : Int32} {b : Nat} (hM : MM g w0 y nM kd w) (hC : CAt g w y a (some b)) (k0 : ¬ a < 0) (k1 : ¬ 5 < a) (hQ : ∀ v : Int32, Q (.inl (some (.int v))) w) : ∀ (d : Nat) (i2 : Int32) (i3 : Int32) (k m : Nat), ¬ i3 < 0 → (6 : Int32).toInt - i3.toInt ≤ (d : Int) → k ≤ 0 → m ≤ 0 → WP (MX3_likesNow g) Q (4, [some (.ref y), some (.int a), some (.int i2), some (.int i3)], [], w, k, m) := by
  intro d
  induction d with
  | zero =>
    intro i2 i3 k m z0 hm hk hs
    rw [eX3_likesNow_4]
    repeat' first
      | with_reducible assumption
      | with_reducible refine And.intro ?_ ?_
      | with_reducible exact (ic_z (by assumption) (by assumption)).elim
      | with_reducible exact absurd (by assumption) n10'
      | with_reducible refine sX3_isNoNumber ?_ (fun _ _ => ?_)
      | with_reducible refine sX3_isNoCard ?_ (fun _ _ => ?_)
      | with_reducible refine sX3_isNoEnd ?_ (fun _ _ => ?_)
      | with_reducible refine sX3_isIn (fun _ _ => ?_) ?_
      | with_reducible refine sX3_start (by first | assumption | exact MMz.m (by assumption) | exact MM.fr (by first | assumption | exact MMz.m (by assumption)) (by assumption) | exact MM.ext' (by assumption) (by assumption) | exact (by assumption : ∀ f', MM g w0 y nM kd (upw _ nM (.inl (0, 8, .inr (.inl f'))))) _ | exact (by assumption : ∀ (th' rf' md' : Int32), MM g w0 y nM kd (upw _ y (.inr (7, [.int th', .ref nM, .ref _, .ref _, .int rf', .int kd, .int md'])))) _ _ _) (by decide) (fun _ _ _ => ?_) (fun _ _ => ?_)
      | with_reducible refine sX3_refuse (by assumption) (by decide) (fun _ => ?_) (fun _ _ => ?_)
      | with_reducible refine sX3_isBareM (by first | assumption | exact MMz.m (by assumption) | exact MM.fr (by first | assumption | exact MMz.m (by assumption)) (by assumption) | exact MM.ext' (by assumption) (by assumption) | exact (by assumption : ∀ f', MM g w0 y nM kd (upw _ nM (.inl (0, 8, .inr (.inl f'))))) _ | exact (by assumption : ∀ (th' rf' md' : Int32), MM g w0 y nM kd (upw _ y (.inr (7, [.int th', .ref nM, .ref _, .ref _, .int rf', .int kd, .int md'])))) _ _ _) (by assumption) (by first | assumption | exact lt65 (by assumption)) ?_ (fun _ _ => ?_)
      | with_reducible refine sX3_isNone (by first | assumption | exact MMz.m (by assumption) | exact MM.fr (by first | assumption | exact MMz.m (by assumption)) (by assumption) | exact MM.ext' (by assumption) (by assumption) | exact (by assumption : ∀ f', MM g w0 y nM kd (upw _ nM (.inl (0, 8, .inr (.inl f'))))) _ | exact (by assumption : ∀ (th' rf' md' : Int32), MM g w0 y nM kd (upw _ y (.inr (7, [.int th', .ref nM, .ref _, .ref _, .int rf', .int kd, .int md'])))) _ _ _) (fun _ _ => ?_) (fun _ _ _ _ _ _ => ?_)
      | with_reducible exact vpi8n (by assumption) (by assumption)
      | with_reducible exact vpi4n (by assumption) (by assumption)
      | with_reducible exact vpi4.1
      | with_reducible exact vpi4.2.1
      | with_reducible exact vpi4.2.2.1
      | with_reducible exact vpi4.2.2.2
      | with_reducible refine go_Y (by first | assumption | exact MMz.m (by assumption) | exact MM.fr (by first | assumption | exact MMz.m (by assumption)) (by assumption) | exact MM.ext' (by assumption) (by assumption) | exact (by assumption : ∀ f', MM g w0 y nM kd (upw _ nM (.inl (0, 8, .inr (.inl f'))))) _ | exact (by assumption : ∀ (th' rf' md' : Int32), MM g w0 y nM kd (upw _ y (.inr (7, [.int th', .ref nM, .ref _, .ref _, .int rf', .int kd, .int md'])))) _ _ _) (fun _ _ _ _ _ _ => ?_)
      | with_reducible refine go_Yw (by first | assumption | exact MMz.m (by assumption) | exact MM.fr (by first | assumption | exact MMz.m (by assumption)) (by assumption) | exact MM.ext' (by assumption) (by assumption) | exact (by assumption : ∀ f', MM g w0 y nM kd (upw _ nM (.inl (0, 8, .inr (.inl f'))))) _ | exact (by assumption : ∀ (th' rf' md' : Int32), MM g w0 y nM kd (upw _ y (.inr (7, [.int th', .ref nM, .ref _, .ref _, .int rf', .int kd, .int md'])))) _ _ _) (fun _ _ _ _ _ _ => ?_)
      | with_reducible refine gl_M (by first | assumption | exact MMz.m (by assumption) | exact MM.fr (by first | assumption | exact MMz.m (by assumption)) (by assumption) | exact MM.ext' (by assumption) (by assumption) | exact (by assumption : ∀ f', MM g w0 y nM kd (upw _ nM (.inl (0, 8, .inr (.inl f'))))) _ | exact (by assumption : ∀ (th' rf' md' : Int32), MM g w0 y nM kd (upw _ y (.inr (7, [.int th', .ref nM, .ref _, .ref _, .int rf', .int kd, .int md'])))) _ _ _) ?_
      | with_reducible refine gl_Mw (by first | assumption | exact MMz.m (by assumption) | exact MM.fr (by first | assumption | exact MMz.m (by assumption)) (by assumption) | exact MM.ext' (by assumption) (by assumption) | exact (by assumption : ∀ f', MM g w0 y nM kd (upw _ nM (.inl (0, 8, .inr (.inl f'))))) _ | exact (by assumption : ∀ (th' rf' md' : Int32), MM g w0 y nM kd (upw _ y (.inr (7, [.int th', .ref nM, .ref _, .ref _, .int rf', .int kd, .int md'])))) _ _ _) ?_
      | with_reducible exact gtC (by first | assumption | exact MMz.m (by assumption) | exact MM.fr (by first | assumption | exact MMz.m (by assumption)) (by assumption) | exact MM.ext' (by assumption) (by assumption) | exact (by assumption : ∀ f', MM g w0 y nM kd (upw _ nM (.inl (0, 8, .inr (.inl f'))))) _ | exact (by assumption : ∀ (th' rf' md' : Int32), MM g w0 y nM kd (upw _ y (.inr (7, [.int th', .ref nM, .ref _, .ref _, .int rf', .int kd, .int md'])))) _ _ _) (by first | assumption | exact isY.s | exact isY.fr (by assumption) (by assumption))
      | with_reducible exact gtP (by first | assumption | exact MMz.m (by assumption) | exact MM.fr (by first | assumption | exact MMz.m (by assumption)) (by assumption) | exact MM.ext' (by assumption) (by assumption) | exact (by assumption : ∀ f', MM g w0 y nM kd (upw _ nM (.inl (0, 8, .inr (.inl f'))))) _ | exact (by assumption : ∀ (th' rf' md' : Int32), MM g w0 y nM kd (upw _ y (.inr (7, [.int th', .ref nM, .ref _, .ref _, .int rf', .int kd, .int md'])))) _ _ _) (by first | assumption | exact isY.s | exact isY.fr (by assumption) (by assumption))
      | with_reducible refine gl_Row (by first | assumption | exact CAt.row (by assumption) | exact isRow.ext (by assumption) (by assumption)) (fun _ => ?_)
      | with_reducible exact isRow.ca (by first | assumption | exact CAt.row (by assumption) | exact isRow.ext (by assumption) (by assumption))
      | with_reducible refine sGetY (by first | assumption | exact CAt.fr (by assumption) (by assumption)) (by first | assumption | exact isY.s | exact isY.fr (by assumption) (by assumption)) (by assumption) (by first | assumption | exact lt65 (by assumption)) ?_
      | with_reducible exact hQ _ _ (by first | assumption | exact MMz.m (by assumption) | exact MM.fr (by first | assumption | exact MMz.m (by assumption)) (by assumption) | exact MM.ext' (by assumption) (by assumption) | exact (by assumption : ∀ f', MM g w0 y nM kd (upw _ nM (.inl (0, 8, .inr (.inl f'))))) _ | exact (by assumption : ∀ (th' rf' md' : Int32), MM g w0 y nM kd (upw _ y (.inr (7, [.int th', .ref nM, .ref _, .ref _, .int rf', .int kd, .int md'])))) _ _ _)
      | with_reducible exact hQ _ (by first | assumption | exact MMz.m (by assumption) | exact MM.fr (by first | assumption | exact MMz.m (by assumption)) (by assumption) | exact MM.ext' (by assumption) (by assumption) | exact (by assumption : ∀ f', MM g w0 y nM kd (upw _ nM (.inl (0, 8, .inr (.inl f'))))) _ | exact (by assumption : ∀ (th' rf' md' : Int32), MM g w0 y nM kd (upw _ y (.inr (7, [.int th', .ref nM, .ref _, .ref _, .int rf', .int kd, .int md'])))) _ _ _)
      | with_reducible exact hQ _
      | with_reducible exact n4g
      | with_reducible exact n4a
      | with_reducible exact n4b
      | with_reducible exact n4c
      | with_reducible refine sX3_high (fun _ => ?_)
      | with_reducible refine sX3_low (fun _ => ?_)
      | with_reducible refine sX3_one (fun _ => ?_)
      | with_reducible refine sX3_become (by first | assumption | exact MMz.m (by assumption) | exact MM.fr (by first | assumption | exact MMz.m (by assumption)) (by assumption) | exact MM.ext' (by assumption) (by assumption) | exact (by assumption : ∀ f', MM g w0 y nM kd (upw _ nM (.inl (0, 8, .inr (.inl f'))))) _ | exact (by assumption : ∀ (th' rf' md' : Int32), MM g w0 y nM kd (upw _ y (.inr (7, [.int th', .ref nM, .ref _, .ref _, .int rf', .int kd, .int md'])))) _ _ _) (by assumption) (by assumption) (fun _ _ _ => ?_)
      | with_reducible refine sX3_no (by first | assumption | exact MMz.m (by assumption) | exact MM.fr (by first | assumption | exact MMz.m (by assumption)) (by assumption) | exact MM.ext' (by assumption) (by assumption) | exact (by assumption : ∀ f', MM g w0 y nM kd (upw _ nM (.inl (0, 8, .inr (.inl f'))))) _ | exact (by assumption : ∀ (th' rf' md' : Int32), MM g w0 y nM kd (upw _ y (.inr (7, [.int th', .ref nM, .ref _, .ref _, .int rf', .int kd, .int md'])))) _ _ _) (fun _ _ => ?_)
      | with_reducible refine sX3_fixed (by first | assumption | exact CAt.row (by assumption) | exact isRow.ext (by assumption) (by assumption)) ?_ ?_
      | with_reducible refine sX3_small (by first | assumption | exact CAt.row (by assumption) | exact isRow.ext (by assumption) (by assumption)) ?_ ?_
      | with_reducible refine sX3_make (by first | assumption | exact MMz.m (by assumption) | exact MM.fr (by first | assumption | exact MMz.m (by assumption)) (by assumption) | exact MM.ext' (by assumption) (by assumption) | exact (by assumption : ∀ f', MM g w0 y nM kd (upw _ nM (.inl (0, 8, .inr (.inl f'))))) _ | exact (by assumption : ∀ (th' rf' md' : Int32), MM g w0 y nM kd (upw _ y (.inr (7, [.int th', .ref nM, .ref _, .ref _, .int rf', .int kd, .int md'])))) _ _ _) (by assumption) (by assumption) (fun _ _ _ => ?_)
      | with_reducible refine sX3_valid (by first | assumption | exact CAt.row (by assumption) | exact isRow.ext (by assumption) (by assumption)) ?_ ?_
      | with_reducible refine sX3_same (by first | assumption | exact CAt.row (by assumption) | exact isRow.ext (by assumption) (by assumption)) (by first | assumption | exact CAt.row (by assumption) | exact isRow.ext (by assumption) (by assumption)) (fun _ _ => ?_)
      | with_reducible refine sX3_aroundNow (by first | assumption | exact CAt.row (by assumption) | exact isRow.ext (by assumption) (by assumption)) (by assumption) (by assumption) (fun _ => ?_)
      | simp only [eX3_likesNow_0, eX3_likesNow_1, eX3_likesNow_2, eX3_likesNow_3, eX3_likesNow_5, eX3_likesNow_7, eX3_likesNow_10, eX3_likesNow_10N, eX3_likesNow_11, eX3_likesNow_12, eX3_likesNow_15, eX3_likesNow_18, eX3_likesNow_18N, eX3_likesNow_19, eX3_likesNow_22, eX3_likesNow_23, eX3_likesNow_26N, eX3_likesNow_26R, eX3_likesNow_29, eX3_likesNow_29N, eX3_likesNow_30, eX3_likesNow_33, eX3_likesNow_34, eX3_likesNow_37N, eX3_likesNow_37R, eX3_likesNow_40RR, eX3_likesNow_40NR, eX3_likesNow_40RN, eX3_likesNow_40NN, eX3_likesNow_43, eX3_likesNow_46, eX3_likesNow_47, eX3_likesNow_48, eX3_likesNow_49, eX3_likesNow_50, eX3_likesNow_51, eX3_likesNow_52, eX3_likesNow_55, eX3_likesNow_58, eX3_likesNow_59, ite_le, n45, n54, true_or, or_true, false_or, or_false, false_and, and_false, kx_l, kx_r, go_s, gl_s, gi_s, gb_s2, gb_s3, gq_s, wt_nil, wt_int, wt_long, wt_ref, wt_null, nl_int, nl_long, nl_ref, nl_null, nl_none, rf_n, rf_s, rf_st, tl_s, tl_n, g0, gS, ex1, nb_b, nb_0, nb_1, nf_i, nf_l, nf_ra, nf_ro, nf_na, nf_no, nf_b0, nf_z0, t45_4, t45_5, true_and, and_true, List.set_cons_zero, List.set_cons_succ, List.length_cons, List.length_nil, rd_s, upw_s, ne_eq, not_false_eq_true, Nat.zero_add, Nat.add_zero, if_true, if_false, eq_self, m10, n4e, upw2q]
      | split
      | with_reducible intro _
      | omega
  | succ d ih =>
    intro i2 i3 k m z0 hm hk hs
    rw [eX3_likesNow_4]
    repeat' first
      | with_reducible assumption
      | with_reducible refine And.intro ?_ ?_
      | with_reducible exact ih _ _ _ _ (ic_p (by assumption) (by assumption)) (ic_s (by assumption) (by assumption)) (by first | assumption | omega) (by first | assumption | omega)
      | with_reducible exact absurd (by assumption) n10'
      | with_reducible refine sX3_isNoNumber ?_ (fun _ _ => ?_)
      | with_reducible refine sX3_isNoCard ?_ (fun _ _ => ?_)
      | with_reducible refine sX3_isNoEnd ?_ (fun _ _ => ?_)
      | with_reducible refine sX3_isIn (fun _ _ => ?_) ?_
      | with_reducible refine sX3_start (by first | assumption | exact MMz.m (by assumption) | exact MM.fr (by first | assumption | exact MMz.m (by assumption)) (by assumption) | exact MM.ext' (by assumption) (by assumption) | exact (by assumption : ∀ f', MM g w0 y nM kd (upw _ nM (.inl (0, 8, .inr (.inl f'))))) _ | exact (by assumption : ∀ (th' rf' md' : Int32), MM g w0 y nM kd (upw _ y (.inr (7, [.int th', .ref nM, .ref _, .ref _, .int rf', .int kd, .int md'])))) _ _ _) (by decide) (fun _ _ _ => ?_) (fun _ _ => ?_)
      | with_reducible refine sX3_refuse (by assumption) (by decide) (fun _ => ?_) (fun _ _ => ?_)
      | with_reducible refine sX3_isBareM (by first | assumption | exact MMz.m (by assumption) | exact MM.fr (by first | assumption | exact MMz.m (by assumption)) (by assumption) | exact MM.ext' (by assumption) (by assumption) | exact (by assumption : ∀ f', MM g w0 y nM kd (upw _ nM (.inl (0, 8, .inr (.inl f'))))) _ | exact (by assumption : ∀ (th' rf' md' : Int32), MM g w0 y nM kd (upw _ y (.inr (7, [.int th', .ref nM, .ref _, .ref _, .int rf', .int kd, .int md'])))) _ _ _) (by assumption) (by first | assumption | exact lt65 (by assumption)) ?_ (fun _ _ => ?_)
      | with_reducible refine sX3_isNone (by first | assumption | exact MMz.m (by assumption) | exact MM.fr (by first | assumption | exact MMz.m (by assumption)) (by assumption) | exact MM.ext' (by assumption) (by assumption) | exact (by assumption : ∀ f', MM g w0 y nM kd (upw _ nM (.inl (0, 8, .inr (.inl f'))))) _ | exact (by assumption : ∀ (th' rf' md' : Int32), MM g w0 y nM kd (upw _ y (.inr (7, [.int th', .ref nM, .ref _, .ref _, .int rf', .int kd, .int md'])))) _ _ _) (fun _ _ => ?_) (fun _ _ _ _ _ _ => ?_)
      | with_reducible exact vpi8n (by assumption) (by assumption)
      | with_reducible exact vpi4n (by assumption) (by assumption)
      | with_reducible exact vpi4.1
      | with_reducible exact vpi4.2.1
      | with_reducible exact vpi4.2.2.1
      | with_reducible exact vpi4.2.2.2
      | with_reducible refine go_Y (by first | assumption | exact MMz.m (by assumption) | exact MM.fr (by first | assumption | exact MMz.m (by assumption)) (by assumption) | exact MM.ext' (by assumption) (by assumption) | exact (by assumption : ∀ f', MM g w0 y nM kd (upw _ nM (.inl (0, 8, .inr (.inl f'))))) _ | exact (by assumption : ∀ (th' rf' md' : Int32), MM g w0 y nM kd (upw _ y (.inr (7, [.int th', .ref nM, .ref _, .ref _, .int rf', .int kd, .int md'])))) _ _ _) (fun _ _ _ _ _ _ => ?_)
      | with_reducible refine go_Yw (by first | assumption | exact MMz.m (by assumption) | exact MM.fr (by first | assumption | exact MMz.m (by assumption)) (by assumption) | exact MM.ext' (by assumption) (by assumption) | exact (by assumption : ∀ f', MM g w0 y nM kd (upw _ nM (.inl (0, 8, .inr (.inl f'))))) _ | exact (by assumption : ∀ (th' rf' md' : Int32), MM g w0 y nM kd (upw _ y (.inr (7, [.int th', .ref nM, .ref _, .ref _, .int rf', .int kd, .int md'])))) _ _ _) (fun _ _ _ _ _ _ => ?_)
      | with_reducible refine gl_M (by first | assumption | exact MMz.m (by assumption) | exact MM.fr (by first | assumption | exact MMz.m (by assumption)) (by assumption) | exact MM.ext' (by assumption) (by assumption) | exact (by assumption : ∀ f', MM g w0 y nM kd (upw _ nM (.inl (0, 8, .inr (.inl f'))))) _ | exact (by assumption : ∀ (th' rf' md' : Int32), MM g w0 y nM kd (upw _ y (.inr (7, [.int th', .ref nM, .ref _, .ref _, .int rf', .int kd, .int md'])))) _ _ _) ?_
      | with_reducible refine gl_Mw (by first | assumption | exact MMz.m (by assumption) | exact MM.fr (by first | assumption | exact MMz.m (by assumption)) (by assumption) | exact MM.ext' (by assumption) (by assumption) | exact (by assumption : ∀ f', MM g w0 y nM kd (upw _ nM (.inl (0, 8, .inr (.inl f'))))) _ | exact (by assumption : ∀ (th' rf' md' : Int32), MM g w0 y nM kd (upw _ y (.inr (7, [.int th', .ref nM, .ref _, .ref _, .int rf', .int kd, .int md'])))) _ _ _) ?_
      | with_reducible exact gtC (by first | assumption | exact MMz.m (by assumption) | exact MM.fr (by first | assumption | exact MMz.m (by assumption)) (by assumption) | exact MM.ext' (by assumption) (by assumption) | exact (by assumption : ∀ f', MM g w0 y nM kd (upw _ nM (.inl (0, 8, .inr (.inl f'))))) _ | exact (by assumption : ∀ (th' rf' md' : Int32), MM g w0 y nM kd (upw _ y (.inr (7, [.int th', .ref nM, .ref _, .ref _, .int rf', .int kd, .int md'])))) _ _ _) (by first | assumption | exact isY.s | exact isY.fr (by assumption) (by assumption))
      | with_reducible exact gtP (by first | assumption | exact MMz.m (by assumption) | exact MM.fr (by first | assumption | exact MMz.m (by assumption)) (by assumption) | exact MM.ext' (by assumption) (by assumption) | exact (by assumption : ∀ f', MM g w0 y nM kd (upw _ nM (.inl (0, 8, .inr (.inl f'))))) _ | exact (by assumption : ∀ (th' rf' md' : Int32), MM g w0 y nM kd (upw _ y (.inr (7, [.int th', .ref nM, .ref _, .ref _, .int rf', .int kd, .int md'])))) _ _ _) (by first | assumption | exact isY.s | exact isY.fr (by assumption) (by assumption))
      | with_reducible refine gl_Row (by first | assumption | exact CAt.row (by assumption) | exact isRow.ext (by assumption) (by assumption)) (fun _ => ?_)
      | with_reducible exact isRow.ca (by first | assumption | exact CAt.row (by assumption) | exact isRow.ext (by assumption) (by assumption))
      | with_reducible refine sGetY (by first | assumption | exact CAt.fr (by assumption) (by assumption)) (by first | assumption | exact isY.s | exact isY.fr (by assumption) (by assumption)) (by assumption) (by first | assumption | exact lt65 (by assumption)) ?_
      | with_reducible exact hQ _ _ (by first | assumption | exact MMz.m (by assumption) | exact MM.fr (by first | assumption | exact MMz.m (by assumption)) (by assumption) | exact MM.ext' (by assumption) (by assumption) | exact (by assumption : ∀ f', MM g w0 y nM kd (upw _ nM (.inl (0, 8, .inr (.inl f'))))) _ | exact (by assumption : ∀ (th' rf' md' : Int32), MM g w0 y nM kd (upw _ y (.inr (7, [.int th', .ref nM, .ref _, .ref _, .int rf', .int kd, .int md'])))) _ _ _)
      | with_reducible exact hQ _ (by first | assumption | exact MMz.m (by assumption) | exact MM.fr (by first | assumption | exact MMz.m (by assumption)) (by assumption) | exact MM.ext' (by assumption) (by assumption) | exact (by assumption : ∀ f', MM g w0 y nM kd (upw _ nM (.inl (0, 8, .inr (.inl f'))))) _ | exact (by assumption : ∀ (th' rf' md' : Int32), MM g w0 y nM kd (upw _ y (.inr (7, [.int th', .ref nM, .ref _, .ref _, .int rf', .int kd, .int md'])))) _ _ _)
      | with_reducible exact hQ _
      | with_reducible exact n4g
      | with_reducible exact n4a
      | with_reducible exact n4b
      | with_reducible exact n4c
      | with_reducible refine sX3_high (fun _ => ?_)
      | with_reducible refine sX3_low (fun _ => ?_)
      | with_reducible refine sX3_one (fun _ => ?_)
      | with_reducible refine sX3_become (by first | assumption | exact MMz.m (by assumption) | exact MM.fr (by first | assumption | exact MMz.m (by assumption)) (by assumption) | exact MM.ext' (by assumption) (by assumption) | exact (by assumption : ∀ f', MM g w0 y nM kd (upw _ nM (.inl (0, 8, .inr (.inl f'))))) _ | exact (by assumption : ∀ (th' rf' md' : Int32), MM g w0 y nM kd (upw _ y (.inr (7, [.int th', .ref nM, .ref _, .ref _, .int rf', .int kd, .int md'])))) _ _ _) (by assumption) (by assumption) (fun _ _ _ => ?_)
      | with_reducible refine sX3_no (by first | assumption | exact MMz.m (by assumption) | exact MM.fr (by first | assumption | exact MMz.m (by assumption)) (by assumption) | exact MM.ext' (by assumption) (by assumption) | exact (by assumption : ∀ f', MM g w0 y nM kd (upw _ nM (.inl (0, 8, .inr (.inl f'))))) _ | exact (by assumption : ∀ (th' rf' md' : Int32), MM g w0 y nM kd (upw _ y (.inr (7, [.int th', .ref nM, .ref _, .ref _, .int rf', .int kd, .int md'])))) _ _ _) (fun _ _ => ?_)
      | with_reducible refine sX3_fixed (by first | assumption | exact CAt.row (by assumption) | exact isRow.ext (by assumption) (by assumption)) ?_ ?_
      | with_reducible refine sX3_small (by first | assumption | exact CAt.row (by assumption) | exact isRow.ext (by assumption) (by assumption)) ?_ ?_
      | with_reducible refine sX3_make (by first | assumption | exact MMz.m (by assumption) | exact MM.fr (by first | assumption | exact MMz.m (by assumption)) (by assumption) | exact MM.ext' (by assumption) (by assumption) | exact (by assumption : ∀ f', MM g w0 y nM kd (upw _ nM (.inl (0, 8, .inr (.inl f'))))) _ | exact (by assumption : ∀ (th' rf' md' : Int32), MM g w0 y nM kd (upw _ y (.inr (7, [.int th', .ref nM, .ref _, .ref _, .int rf', .int kd, .int md'])))) _ _ _) (by assumption) (by assumption) (fun _ _ _ => ?_)
      | with_reducible refine sX3_valid (by first | assumption | exact CAt.row (by assumption) | exact isRow.ext (by assumption) (by assumption)) ?_ ?_
      | with_reducible refine sX3_same (by first | assumption | exact CAt.row (by assumption) | exact isRow.ext (by assumption) (by assumption)) (by first | assumption | exact CAt.row (by assumption) | exact isRow.ext (by assumption) (by assumption)) (fun _ _ => ?_)
      | with_reducible refine sX3_aroundNow (by first | assumption | exact CAt.row (by assumption) | exact isRow.ext (by assumption) (by assumption)) (by assumption) (by assumption) (fun _ => ?_)
      | simp only [eX3_likesNow_0, eX3_likesNow_1, eX3_likesNow_2, eX3_likesNow_3, eX3_likesNow_5, eX3_likesNow_7, eX3_likesNow_10, eX3_likesNow_10N, eX3_likesNow_11, eX3_likesNow_12, eX3_likesNow_15, eX3_likesNow_18, eX3_likesNow_18N, eX3_likesNow_19, eX3_likesNow_22, eX3_likesNow_23, eX3_likesNow_26N, eX3_likesNow_26R, eX3_likesNow_29, eX3_likesNow_29N, eX3_likesNow_30, eX3_likesNow_33, eX3_likesNow_34, eX3_likesNow_37N, eX3_likesNow_37R, eX3_likesNow_40RR, eX3_likesNow_40NR, eX3_likesNow_40RN, eX3_likesNow_40NN, eX3_likesNow_43, eX3_likesNow_46, eX3_likesNow_47, eX3_likesNow_48, eX3_likesNow_49, eX3_likesNow_50, eX3_likesNow_51, eX3_likesNow_52, eX3_likesNow_55, eX3_likesNow_58, eX3_likesNow_59, ite_le, n45, n54, true_or, or_true, false_or, or_false, false_and, and_false, kx_l, kx_r, go_s, gl_s, gi_s, gb_s2, gb_s3, gq_s, wt_nil, wt_int, wt_long, wt_ref, wt_null, nl_int, nl_long, nl_ref, nl_null, nl_none, rf_n, rf_s, rf_st, tl_s, tl_n, g0, gS, ex1, nb_b, nb_0, nb_1, nf_i, nf_l, nf_ra, nf_ro, nf_na, nf_no, nf_b0, nf_z0, t45_4, t45_5, true_and, and_true, List.set_cons_zero, List.set_cons_succ, List.length_cons, List.length_nil, rd_s, upw_s, ne_eq, not_false_eq_true, Nat.zero_add, Nat.add_zero, if_true, if_false, eq_self, m10, n4e, upw2q]
      | split
      | with_reducible intro _
      | omega
set_option maxHeartbeats 4000000 in
theorem sX3_likesNow {a : Int32} {b : Nat} (hM : MM g w0 y nM kd w) (hC : CAt g w y a (some b)) (k0 : ¬ a < 0) (k1 : ¬ 5 < a) (hQ : ∀ v : Int32, Q (.inl (some (.int v))) w) : WP (MX3_likesNow g) Q (0, [some (.ref y), some (.int a), none, none], [], w, 0, 0) := by
  repeat' first
    | with_reducible assumption
    | with_reducible refine And.intro ?_ ?_
    | with_reducible exact lX3_likesNow_4 hM hC k0 k1 hQ 70 _ _ _ _ (by first | decide | assumption) (by decide) (by first | decide | omega) (by first | decide | omega)
    | with_reducible exact absurd (by assumption) n10'
    | with_reducible refine sX3_isNoNumber ?_ (fun _ _ => ?_)
    | with_reducible refine sX3_isNoCard ?_ (fun _ _ => ?_)
    | with_reducible refine sX3_isNoEnd ?_ (fun _ _ => ?_)
    | with_reducible refine sX3_isIn (fun _ _ => ?_) ?_
    | with_reducible refine sX3_start (by first | assumption | exact MMz.m (by assumption) | exact MM.fr (by first | assumption | exact MMz.m (by assumption)) (by assumption) | exact MM.ext' (by assumption) (by assumption) | exact (by assumption : ∀ f', MM g w0 y nM kd (upw _ nM (.inl (0, 8, .inr (.inl f'))))) _ | exact (by assumption : ∀ (th' rf' md' : Int32), MM g w0 y nM kd (upw _ y (.inr (7, [.int th', .ref nM, .ref _, .ref _, .int rf', .int kd, .int md'])))) _ _ _) (by decide) (fun _ _ _ => ?_) (fun _ _ => ?_)
    | with_reducible refine sX3_refuse (by assumption) (by decide) (fun _ => ?_) (fun _ _ => ?_)
    | with_reducible refine sX3_isBareM (by first | assumption | exact MMz.m (by assumption) | exact MM.fr (by first | assumption | exact MMz.m (by assumption)) (by assumption) | exact MM.ext' (by assumption) (by assumption) | exact (by assumption : ∀ f', MM g w0 y nM kd (upw _ nM (.inl (0, 8, .inr (.inl f'))))) _ | exact (by assumption : ∀ (th' rf' md' : Int32), MM g w0 y nM kd (upw _ y (.inr (7, [.int th', .ref nM, .ref _, .ref _, .int rf', .int kd, .int md'])))) _ _ _) (by assumption) (by first | assumption | exact lt65 (by assumption)) ?_ (fun _ _ => ?_)
    | with_reducible refine sX3_isNone (by first | assumption | exact MMz.m (by assumption) | exact MM.fr (by first | assumption | exact MMz.m (by assumption)) (by assumption) | exact MM.ext' (by assumption) (by assumption) | exact (by assumption : ∀ f', MM g w0 y nM kd (upw _ nM (.inl (0, 8, .inr (.inl f'))))) _ | exact (by assumption : ∀ (th' rf' md' : Int32), MM g w0 y nM kd (upw _ y (.inr (7, [.int th', .ref nM, .ref _, .ref _, .int rf', .int kd, .int md'])))) _ _ _) (fun _ _ => ?_) (fun _ _ _ _ _ _ => ?_)
    | with_reducible exact vpi8n (by assumption) (by assumption)
    | with_reducible exact vpi4n (by assumption) (by assumption)
    | with_reducible exact vpi4.1
    | with_reducible exact vpi4.2.1
    | with_reducible exact vpi4.2.2.1
    | with_reducible exact vpi4.2.2.2
    | with_reducible refine go_Y (by first | assumption | exact MMz.m (by assumption) | exact MM.fr (by first | assumption | exact MMz.m (by assumption)) (by assumption) | exact MM.ext' (by assumption) (by assumption) | exact (by assumption : ∀ f', MM g w0 y nM kd (upw _ nM (.inl (0, 8, .inr (.inl f'))))) _ | exact (by assumption : ∀ (th' rf' md' : Int32), MM g w0 y nM kd (upw _ y (.inr (7, [.int th', .ref nM, .ref _, .ref _, .int rf', .int kd, .int md'])))) _ _ _) (fun _ _ _ _ _ _ => ?_)
    | with_reducible refine go_Yw (by first | assumption | exact MMz.m (by assumption) | exact MM.fr (by first | assumption | exact MMz.m (by assumption)) (by assumption) | exact MM.ext' (by assumption) (by assumption) | exact (by assumption : ∀ f', MM g w0 y nM kd (upw _ nM (.inl (0, 8, .inr (.inl f'))))) _ | exact (by assumption : ∀ (th' rf' md' : Int32), MM g w0 y nM kd (upw _ y (.inr (7, [.int th', .ref nM, .ref _, .ref _, .int rf', .int kd, .int md'])))) _ _ _) (fun _ _ _ _ _ _ => ?_)
    | with_reducible refine gl_M (by first | assumption | exact MMz.m (by assumption) | exact MM.fr (by first | assumption | exact MMz.m (by assumption)) (by assumption) | exact MM.ext' (by assumption) (by assumption) | exact (by assumption : ∀ f', MM g w0 y nM kd (upw _ nM (.inl (0, 8, .inr (.inl f'))))) _ | exact (by assumption : ∀ (th' rf' md' : Int32), MM g w0 y nM kd (upw _ y (.inr (7, [.int th', .ref nM, .ref _, .ref _, .int rf', .int kd, .int md'])))) _ _ _) ?_
    | with_reducible refine gl_Mw (by first | assumption | exact MMz.m (by assumption) | exact MM.fr (by first | assumption | exact MMz.m (by assumption)) (by assumption) | exact MM.ext' (by assumption) (by assumption) | exact (by assumption : ∀ f', MM g w0 y nM kd (upw _ nM (.inl (0, 8, .inr (.inl f'))))) _ | exact (by assumption : ∀ (th' rf' md' : Int32), MM g w0 y nM kd (upw _ y (.inr (7, [.int th', .ref nM, .ref _, .ref _, .int rf', .int kd, .int md'])))) _ _ _) ?_
    | with_reducible exact gtC (by first | assumption | exact MMz.m (by assumption) | exact MM.fr (by first | assumption | exact MMz.m (by assumption)) (by assumption) | exact MM.ext' (by assumption) (by assumption) | exact (by assumption : ∀ f', MM g w0 y nM kd (upw _ nM (.inl (0, 8, .inr (.inl f'))))) _ | exact (by assumption : ∀ (th' rf' md' : Int32), MM g w0 y nM kd (upw _ y (.inr (7, [.int th', .ref nM, .ref _, .ref _, .int rf', .int kd, .int md'])))) _ _ _) (by first | assumption | exact isY.s | exact isY.fr (by assumption) (by assumption))
    | with_reducible exact gtP (by first | assumption | exact MMz.m (by assumption) | exact MM.fr (by first | assumption | exact MMz.m (by assumption)) (by assumption) | exact MM.ext' (by assumption) (by assumption) | exact (by assumption : ∀ f', MM g w0 y nM kd (upw _ nM (.inl (0, 8, .inr (.inl f'))))) _ | exact (by assumption : ∀ (th' rf' md' : Int32), MM g w0 y nM kd (upw _ y (.inr (7, [.int th', .ref nM, .ref _, .ref _, .int rf', .int kd, .int md'])))) _ _ _) (by first | assumption | exact isY.s | exact isY.fr (by assumption) (by assumption))
    | with_reducible refine gl_Row (by first | assumption | exact CAt.row (by assumption) | exact isRow.ext (by assumption) (by assumption)) (fun _ => ?_)
    | with_reducible exact isRow.ca (by first | assumption | exact CAt.row (by assumption) | exact isRow.ext (by assumption) (by assumption))
    | with_reducible refine sGetY (by first | assumption | exact CAt.fr (by assumption) (by assumption)) (by first | assumption | exact isY.s | exact isY.fr (by assumption) (by assumption)) (by assumption) (by first | assumption | exact lt65 (by assumption)) ?_
    | with_reducible exact hQ _ _ (by first | assumption | exact MMz.m (by assumption) | exact MM.fr (by first | assumption | exact MMz.m (by assumption)) (by assumption) | exact MM.ext' (by assumption) (by assumption) | exact (by assumption : ∀ f', MM g w0 y nM kd (upw _ nM (.inl (0, 8, .inr (.inl f'))))) _ | exact (by assumption : ∀ (th' rf' md' : Int32), MM g w0 y nM kd (upw _ y (.inr (7, [.int th', .ref nM, .ref _, .ref _, .int rf', .int kd, .int md'])))) _ _ _)
    | with_reducible exact hQ _ (by first | assumption | exact MMz.m (by assumption) | exact MM.fr (by first | assumption | exact MMz.m (by assumption)) (by assumption) | exact MM.ext' (by assumption) (by assumption) | exact (by assumption : ∀ f', MM g w0 y nM kd (upw _ nM (.inl (0, 8, .inr (.inl f'))))) _ | exact (by assumption : ∀ (th' rf' md' : Int32), MM g w0 y nM kd (upw _ y (.inr (7, [.int th', .ref nM, .ref _, .ref _, .int rf', .int kd, .int md'])))) _ _ _)
    | with_reducible exact hQ _
    | with_reducible exact n4g
    | with_reducible exact n4a
    | with_reducible exact n4b
    | with_reducible exact n4c
    | with_reducible refine sX3_high (fun _ => ?_)
    | with_reducible refine sX3_low (fun _ => ?_)
    | with_reducible refine sX3_one (fun _ => ?_)
    | with_reducible refine sX3_become (by first | assumption | exact MMz.m (by assumption) | exact MM.fr (by first | assumption | exact MMz.m (by assumption)) (by assumption) | exact MM.ext' (by assumption) (by assumption) | exact (by assumption : ∀ f', MM g w0 y nM kd (upw _ nM (.inl (0, 8, .inr (.inl f'))))) _ | exact (by assumption : ∀ (th' rf' md' : Int32), MM g w0 y nM kd (upw _ y (.inr (7, [.int th', .ref nM, .ref _, .ref _, .int rf', .int kd, .int md'])))) _ _ _) (by assumption) (by assumption) (fun _ _ _ => ?_)
    | with_reducible refine sX3_no (by first | assumption | exact MMz.m (by assumption) | exact MM.fr (by first | assumption | exact MMz.m (by assumption)) (by assumption) | exact MM.ext' (by assumption) (by assumption) | exact (by assumption : ∀ f', MM g w0 y nM kd (upw _ nM (.inl (0, 8, .inr (.inl f'))))) _ | exact (by assumption : ∀ (th' rf' md' : Int32), MM g w0 y nM kd (upw _ y (.inr (7, [.int th', .ref nM, .ref _, .ref _, .int rf', .int kd, .int md'])))) _ _ _) (fun _ _ => ?_)
    | with_reducible refine sX3_fixed (by first | assumption | exact CAt.row (by assumption) | exact isRow.ext (by assumption) (by assumption)) ?_ ?_
    | with_reducible refine sX3_small (by first | assumption | exact CAt.row (by assumption) | exact isRow.ext (by assumption) (by assumption)) ?_ ?_
    | with_reducible refine sX3_make (by first | assumption | exact MMz.m (by assumption) | exact MM.fr (by first | assumption | exact MMz.m (by assumption)) (by assumption) | exact MM.ext' (by assumption) (by assumption) | exact (by assumption : ∀ f', MM g w0 y nM kd (upw _ nM (.inl (0, 8, .inr (.inl f'))))) _ | exact (by assumption : ∀ (th' rf' md' : Int32), MM g w0 y nM kd (upw _ y (.inr (7, [.int th', .ref nM, .ref _, .ref _, .int rf', .int kd, .int md'])))) _ _ _) (by assumption) (by assumption) (fun _ _ _ => ?_)
    | with_reducible refine sX3_valid (by first | assumption | exact CAt.row (by assumption) | exact isRow.ext (by assumption) (by assumption)) ?_ ?_
    | with_reducible refine sX3_same (by first | assumption | exact CAt.row (by assumption) | exact isRow.ext (by assumption) (by assumption)) (by first | assumption | exact CAt.row (by assumption) | exact isRow.ext (by assumption) (by assumption)) (fun _ _ => ?_)
    | with_reducible refine sX3_aroundNow (by first | assumption | exact CAt.row (by assumption) | exact isRow.ext (by assumption) (by assumption)) (by assumption) (by assumption) (fun _ => ?_)
    | simp only [eX3_likesNow_0, eX3_likesNow_1, eX3_likesNow_2, eX3_likesNow_3, eX3_likesNow_5, eX3_likesNow_7, eX3_likesNow_10, eX3_likesNow_10N, eX3_likesNow_11, eX3_likesNow_12, eX3_likesNow_15, eX3_likesNow_18, eX3_likesNow_18N, eX3_likesNow_19, eX3_likesNow_22, eX3_likesNow_23, eX3_likesNow_26N, eX3_likesNow_26R, eX3_likesNow_29, eX3_likesNow_29N, eX3_likesNow_30, eX3_likesNow_33, eX3_likesNow_34, eX3_likesNow_37N, eX3_likesNow_37R, eX3_likesNow_40RR, eX3_likesNow_40NR, eX3_likesNow_40RN, eX3_likesNow_40NN, eX3_likesNow_43, eX3_likesNow_46, eX3_likesNow_47, eX3_likesNow_48, eX3_likesNow_49, eX3_likesNow_50, eX3_likesNow_51, eX3_likesNow_52, eX3_likesNow_55, eX3_likesNow_58, eX3_likesNow_59, ite_le, n45, n54, true_or, or_true, false_or, or_false, false_and, and_false, kx_l, kx_r, go_s, gl_s, gi_s, gb_s2, gb_s3, gq_s, wt_nil, wt_int, wt_long, wt_ref, wt_null, nl_int, nl_long, nl_ref, nl_null, nl_none, rf_n, rf_s, rf_st, tl_s, tl_n, g0, gS, ex1, nb_b, nb_0, nb_1, nf_i, nf_l, nf_ra, nf_ro, nf_na, nf_no, nf_b0, nf_z0, t45_4, t45_5, true_and, and_true, List.set_cons_zero, List.set_cons_succ, List.length_cons, List.length_nil, rd_s, upw_s, ne_eq, not_false_eq_true, Nat.zero_add, Nat.add_zero, if_true, if_false, eq_self, m10, n4e, upw2q]
    | split
    | with_reducible intro _
    | omega
end
end
