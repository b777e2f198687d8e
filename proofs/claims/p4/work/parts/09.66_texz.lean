/-! 66.texz.lean.txt -/
section
/-! Rangecard.appendBackwards(Ljava/lang/StringBuilder;J)V -/
theorem dX1_appendBackwards_0 : decode cX1_appendBackwards 0 = .ok (.lload_n 1, 1) := by decide +kernel
theorem dX1_appendBackwards_1 : decode cX1_appendBackwards 1 = .ok (.lstore_n 3, 1) := by decide +kernel
theorem dX1_appendBackwards_2 : decode cX1_appendBackwards 2 = .ok (.iconst 0, 1) := by decide +kernel
theorem dX1_appendBackwards_3 : decode cX1_appendBackwards 3 = .ok (.istore 5, 2) := by decide +kernel
theorem dX1_appendBackwards_5 : decode cX1_appendBackwards 5 = .ok (.iload 5, 2) := by decide +kernel
theorem dX1_appendBackwards_7 : decode cX1_appendBackwards 7 = .ok (.bipush 19, 2) := by decide +kernel
theorem dX1_appendBackwards_9 : decode cX1_appendBackwards 9 = .ok (.if_icmp .ge 38, 3) := by decide +kernel
theorem dX1_appendBackwards_12 : decode cX1_appendBackwards 12 = .ok (.aload_n 0, 1) := by decide +kernel
theorem dX1_appendBackwards_13 : decode cX1_appendBackwards 13 = .ok (.lload_n 3, 1) := by decide +kernel
theorem dX1_appendBackwards_14 : decode cX1_appendBackwards 14 = .ok (.ldc2_w 264, 3) := by decide +kernel
theorem dX1_appendBackwards_17 : decode cX1_appendBackwards 17 = .ok (.lrem, 1) := by decide +kernel
theorem dX1_appendBackwards_18 : decode cX1_appendBackwards 18 = .ok (.l2i, 1) := by decide +kernel
theorem dX1_appendBackwards_19 : decode cX1_appendBackwards 19 = .ok (.invokestatic 266, 3) := by decide +kernel
theorem dX1_appendBackwards_22 : decode cX1_appendBackwards 22 = .ok (.invokevirtual 271, 3) := by decide +kernel
theorem dX1_appendBackwards_25 : decode cX1_appendBackwards 25 = .ok (.pop, 1) := by decide +kernel
theorem dX1_appendBackwards_26 : decode cX1_appendBackwards 26 = .ok (.lload_n 3, 1) := by decide +kernel
theorem dX1_appendBackwards_27 : decode cX1_appendBackwards 27 = .ok (.ldc2_w 264, 3) := by decide +kernel
theorem dX1_appendBackwards_30 : decode cX1_appendBackwards 30 = .ok (.ldiv, 1) := by decide +kernel
theorem dX1_appendBackwards_31 : decode cX1_appendBackwards 31 = .ok (.lstore_n 3, 1) := by decide +kernel
theorem dX1_appendBackwards_32 : decode cX1_appendBackwards 32 = .ok (.lload_n 3, 1) := by decide +kernel
theorem dX1_appendBackwards_33 : decode cX1_appendBackwards 33 = .ok (.lconst 0, 1) := by decide +kernel
theorem dX1_appendBackwards_34 : decode cX1_appendBackwards 34 = .ok (.lcmp, 1) := by decide +kernel
theorem dX1_appendBackwards_35 : decode cX1_appendBackwards 35 = .ok (.ifCond .ne 6, 3) := by decide +kernel
theorem dX1_appendBackwards_38 : decode cX1_appendBackwards 38 = .ok (.goto 9, 3) := by decide +kernel
theorem dX1_appendBackwards_41 : decode cX1_appendBackwards 41 = .ok (.iinc 5 1, 3) := by decide +kernel
theorem dX1_appendBackwards_44 : decode cX1_appendBackwards 44 = .ok (.goto (-39), 3) := by decide +kernel
theorem dX1_appendBackwards_47 : decode cX1_appendBackwards 47 = .ok (.lload_n 1, 1) := by decide +kernel
theorem dX1_appendBackwards_48 : decode cX1_appendBackwards 48 = .ok (.lconst 0, 1) := by decide +kernel
theorem dX1_appendBackwards_49 : decode cX1_appendBackwards 49 = .ok (.lcmp, 1) := by decide +kernel
theorem dX1_appendBackwards_50 : decode cX1_appendBackwards 50 = .ok (.ifCond .ge 10, 3) := by decide +kernel
theorem dX1_appendBackwards_53 : decode cX1_appendBackwards 53 = .ok (.aload_n 0, 1) := by decide +kernel
theorem dX1_appendBackwards_54 : decode cX1_appendBackwards 54 = .ok (.bipush 45, 2) := by decide +kernel
theorem dX1_appendBackwards_56 : decode cX1_appendBackwards 56 = .ok (.invokevirtual 146, 3) := by decide +kernel
theorem dX1_appendBackwards_59 : decode cX1_appendBackwards 59 = .ok (.pop, 1) := by decide +kernel
theorem dX1_appendBackwards_60 : decode cX1_appendBackwards 60 = .ok (.return_, 1) := by decide +kernel
def MX1_appendBackwards (g : RO) : MT := ((RX1, cX1_appendBackwards, 6, 6, 3, 246, false, none), [], [], [], [(264, 10)], [], 0, [(271, 2, 2, 1, 5, kfI, sfI, yJ4_append_bf812, spF (MJ4_append_bf812 g) kfI sfI), (146, 2, 2, 1, 5, kfI, sfI, yJ4_append_cf468, spF (MJ4_append_cf468 g) kfI sfI)], [(266, 14)], [], 0, [], [], g)
section
variable {g : RO} {Q : Ot → Hw → Prop} {st : List Value} {w : Hw} {k n p q : Nat} {a b : Int32} {x y : Int64} {u v : Value} {l0 l1 l2 l3 l4 l5 : Option Value}
theorem eX1_appendBackwards_0 : WP (MX1_appendBackwards g) Q (0, [l0, some (.long x), l2, l3, l4, l5], st, w, k, n) = WP (MX1_appendBackwards g) Q (1, [l0, some (.long x), l2, l3, l4, l5], .long x :: st, w, k, n) := Eq.trans (WP_at (M := (MX1_appendBackwards g)) rfl dX1_appendBackwards_0 (Or.inr rfl)) rfl
theorem eX1_appendBackwards_1 : WP (MX1_appendBackwards g) Q (1, [l0, l1, l2, l3, l4, l5], .long x :: st, w, k, n) = WP (MX1_appendBackwards g) Q (2, [l0, l1, nl l2, some (.long x), none, l5], st, w, k, n) := by rw [WP_at (M := (MX1_appendBackwards g)) rfl dX1_appendBackwards_1 (Or.inr rfl)]; exact and_t (Nat.le_of_ble_eq_true rfl)
theorem eX1_appendBackwards_2 : WP (MX1_appendBackwards g) Q (2, [l0, l1, l2, l3, l4, l5], st, w, k, n) = WP (MX1_appendBackwards g) Q (3, [l0, l1, l2, l3, l4, l5], .int 0 :: st, w, k, n) := iconst_e rfl dX1_appendBackwards_2 (by decide)
theorem eX1_appendBackwards_3 : WP (MX1_appendBackwards g) Q (3, [l0, l1, l2, l3, l4, l5], .int a :: st, w, k, n) = WP (MX1_appendBackwards g) Q (5, [l0, l1, l2, l3, nl l4, some (.int a)], st, w, k, n) := by rw [WP_at (M := (MX1_appendBackwards g)) rfl dX1_appendBackwards_3 (Or.inr rfl)]; exact and_t (Nat.le_of_ble_eq_true rfl)
theorem eX1_appendBackwards_5 : WP (MX1_appendBackwards g) Q (5, [l0, l1, l2, l3, l4, some (.int a)], st, w, k, n) = WP (MX1_appendBackwards g) Q (7, [l0, l1, l2, l3, l4, some (.int a)], .int a :: st, w, k, n) := Eq.trans (WP_at (M := (MX1_appendBackwards g)) rfl dX1_appendBackwards_5 (Or.inr rfl)) rfl
theorem eX1_appendBackwards_7 : WP (MX1_appendBackwards g) Q (7, [l0, l1, l2, l3, l4, l5], st, w, k, n) = WP (MX1_appendBackwards g) Q (9, [l0, l1, l2, l3, l4, l5], .int 19 :: st, w, k, n) := bipush_e rfl dX1_appendBackwards_7 (by decide)
theorem eX1_appendBackwards_9 : WP (MX1_appendBackwards g) Q (9, [l0, l1, l2, l3, l4, l5], .int b :: .int a :: st, w, k, n) = if b ≤ a then WP (MX1_appendBackwards g) Q (47, [l0, l1, l2, l3, l4, l5], st, w, k, n) else WP (MX1_appendBackwards g) Q (12, [l0, l1, l2, l3, l4, l5], st, w, k, n) := icm_e (b ≤ a) rfl dX1_appendBackwards_9 rfl (by decide)
theorem eX1_appendBackwards_12 : WP (MX1_appendBackwards g) Q (12, [some (.ref p), l1, l2, l3, l4, l5], st, w, k, n) = WP (MX1_appendBackwards g) Q (13, [some (.ref p), l1, l2, l3, l4, l5], .ref p :: st, w, k, n) := Eq.trans (WP_at (M := (MX1_appendBackwards g)) rfl dX1_appendBackwards_12 (Or.inr rfl)) rfl
theorem eX1_appendBackwards_12N : WP (MX1_appendBackwards g) Q (12, [some .null, l1, l2, l3, l4, l5], st, w, k, n) = WP (MX1_appendBackwards g) Q (13, [some .null, l1, l2, l3, l4, l5], .null :: st, w, k, n) := Eq.trans (WP_at (M := (MX1_appendBackwards g)) rfl dX1_appendBackwards_12 (Or.inr rfl)) rfl
theorem eX1_appendBackwards_13 : WP (MX1_appendBackwards g) Q (13, [l0, l1, l2, some (.long x), l4, l5], st, w, k, n) = WP (MX1_appendBackwards g) Q (14, [l0, l1, l2, some (.long x), l4, l5], .long x :: st, w, k, n) := Eq.trans (WP_at (M := (MX1_appendBackwards g)) rfl dX1_appendBackwards_13 (Or.inr rfl)) rfl
theorem eX1_appendBackwards_14 : WP (MX1_appendBackwards g) Q (14, [l0, l1, l2, l3, l4, l5], st, w, k, n) = WP (MX1_appendBackwards g) Q (17, [l0, l1, l2, l3, l4, l5], .long 10 :: st, w, k, n) := ldc2_e rfl dX1_appendBackwards_14 rfl
theorem eX1_appendBackwards_17 : WP (MX1_appendBackwards g) Q (17, [l0, l1, l2, l3, l4, l5], .long y :: .long x :: st, w, k, n) = (¬ y = 0 ∧ WP (MX1_appendBackwards g) Q (18, [l0, l1, l2, l3, l4, l5], .long (x - x / y * y) :: st, w, k, n)) := Eq.trans (WP_at (M := (MX1_appendBackwards g)) rfl dX1_appendBackwards_17 (Or.inr rfl)) rfl
theorem eX1_appendBackwards_18 : WP (MX1_appendBackwards g) Q (18, [l0, l1, l2, l3, l4, l5], .long x :: st, w, k, n) = WP (MX1_appendBackwards g) Q (19, [l0, l1, l2, l3, l4, l5], .int x.toInt32 :: st, w, k, n) := Eq.trans (WP_at (M := (MX1_appendBackwards g)) rfl dX1_appendBackwards_18 (Or.inr rfl)) rfl
theorem eX1_appendBackwards_19 : WP (MX1_appendBackwards g) Q (19, [l0, l1, l2, l3, l4, l5], .int a :: st, w, k, n) = (wt st ≤ 8 ∧ k ≤ 3 ∧ n ≤ 246 ∧ WP (MX1_appendBackwards g) Q (22, [l0, l1, l2, l3, l4, l5], .int (if 0 ≤ a then a else 0 - a) :: st, w, k, n)) := mabs_e rfl dX1_appendBackwards_19 (Nat.ne_of_beq_eq_false rfl) rfl (Nat.le_of_ble_eq_true rfl)
theorem eX1_appendBackwards_22 {z0 : Int32} : WP (MX1_appendBackwards g) Q (22, [l0, l1, l2, l3, l4, l5], .int z0 :: .ref p :: st, w, k, n) = (go (rd g w p) 1 (fun _ => True) ∧ wt st ≤ 8 ∧ k + kfI [.ref p, .int z0] w ≤ 3 ∧ n + sfI [.ref p, .int z0] w ≤ 246 ∧ WP (MJ4_append_bf812 g (kfI [.ref p, .int z0] w) (sfI [.ref p, .int z0] w)) (kx (fun v w' => WP (MX1_appendBackwards g) Q (25, [l0, l1, l2, l3, l4, l5], v.toList ++ st, w', k + kfI [.ref p, .int z0] w, n + sfI [.ref p, .int z0] w)) (fun E w' => Q (.inr E) w')) (0, [some (.ref p), some (.int z0)], [], w, 0, 0)) := csV (M := (MX1_appendBackwards g)) (mc := kfI) (ms := sfI) (As := [.int z0]) (rest := st) (MJ4_append_bf812 g (kfI [.ref p, .int z0] w) (sfI [.ref p, .int z0] w)) rfl rfl dX1_appendBackwards_22 (by exact fun h => nomatch (show (none : Option Nat) = some 11 from h)) (by exact fun h => nomatch (show (none : Option Nat) = some 15 from h)) rfl rfl (by decide) (Nat.le_of_ble_eq_true rfl) (Nat.le_of_ble_eq_true rfl) rfl
theorem eX1_appendBackwards_25 : WP (MX1_appendBackwards g) Q (25, [l0, l1, l2, l3, l4, l5], .int a :: st, w, k, n) = WP (MX1_appendBackwards g) Q (26, [l0, l1, l2, l3, l4, l5], st, w, k, n) := by rw [WP_at (M := (MX1_appendBackwards g)) rfl dX1_appendBackwards_25 (Or.inr rfl)]; exact and_t rfl
theorem eX1_appendBackwards_25R : WP (MX1_appendBackwards g) Q (25, [l0, l1, l2, l3, l4, l5], .ref p :: st, w, k, n) = WP (MX1_appendBackwards g) Q (26, [l0, l1, l2, l3, l4, l5], st, w, k, n) := by rw [WP_at (M := (MX1_appendBackwards g)) rfl dX1_appendBackwards_25 (Or.inr rfl)]; exact and_t rfl
theorem eX1_appendBackwards_25N : WP (MX1_appendBackwards g) Q (25, [l0, l1, l2, l3, l4, l5], .null :: st, w, k, n) = WP (MX1_appendBackwards g) Q (26, [l0, l1, l2, l3, l4, l5], st, w, k, n) := by rw [WP_at (M := (MX1_appendBackwards g)) rfl dX1_appendBackwards_25 (Or.inr rfl)]; exact and_t rfl
theorem eX1_appendBackwards_26 : WP (MX1_appendBackwards g) Q (26, [l0, l1, l2, some (.long x), l4, l5], st, w, k, n) = WP (MX1_appendBackwards g) Q (27, [l0, l1, l2, some (.long x), l4, l5], .long x :: st, w, k, n) := Eq.trans (WP_at (M := (MX1_appendBackwards g)) rfl dX1_appendBackwards_26 (Or.inr rfl)) rfl
theorem eX1_appendBackwards_27 : WP (MX1_appendBackwards g) Q (27, [l0, l1, l2, l3, l4, l5], st, w, k, n) = WP (MX1_appendBackwards g) Q (30, [l0, l1, l2, l3, l4, l5], .long 10 :: st, w, k, n) := ldc2_e rfl dX1_appendBackwards_27 rfl
theorem eX1_appendBackwards_30 : WP (MX1_appendBackwards g) Q (30, [l0, l1, l2, l3, l4, l5], .long y :: .long x :: st, w, k, n) = (¬ y = 0 ∧ WP (MX1_appendBackwards g) Q (31, [l0, l1, l2, l3, l4, l5], .long (x / y) :: st, w, k, n)) := Eq.trans (WP_at (M := (MX1_appendBackwards g)) rfl dX1_appendBackwards_30 (Or.inr rfl)) rfl
theorem eX1_appendBackwards_31 : WP (MX1_appendBackwards g) Q (31, [l0, l1, l2, l3, l4, l5], .long x :: st, w, k, n) = WP (MX1_appendBackwards g) Q (32, [l0, l1, nl l2, some (.long x), none, l5], st, w, k, n) := by rw [WP_at (M := (MX1_appendBackwards g)) rfl dX1_appendBackwards_31 (Or.inr rfl)]; exact and_t (Nat.le_of_ble_eq_true rfl)
theorem eX1_appendBackwards_32 : WP (MX1_appendBackwards g) Q (32, [l0, l1, l2, some (.long x), l4, l5], st, w, k, n) = WP (MX1_appendBackwards g) Q (33, [l0, l1, l2, some (.long x), l4, l5], .long x :: st, w, k, n) := Eq.trans (WP_at (M := (MX1_appendBackwards g)) rfl dX1_appendBackwards_32 (Or.inr rfl)) rfl
theorem eX1_appendBackwards_33 : WP (MX1_appendBackwards g) Q (33, [l0, l1, l2, l3, l4, l5], st, w, k, n) = WP (MX1_appendBackwards g) Q (34, [l0, l1, l2, l3, l4, l5], .long 0 :: st, w, k, n) := lconst_e rfl dX1_appendBackwards_33 (by decide)
theorem eX1_appendBackwards_34 : WP (MX1_appendBackwards g) Q (34, [l0, l1, l2, l3, l4, l5], .long y :: .long x :: st, w, k, n) = WP (MX1_appendBackwards g) Q (35, [l0, l1, l2, l3, l4, l5], .int (lg_cmp x y) :: st, w, k, n) := Eq.trans (WP_at (M := (MX1_appendBackwards g)) rfl dX1_appendBackwards_34 (Or.inr rfl)) rfl
theorem eX1_appendBackwards_35 : WP (MX1_appendBackwards g) Q (35, [l0, l1, l2, l3, l4, l5], .int a :: st, w, k, n) = if a = 0 then WP (MX1_appendBackwards g) Q (38, [l0, l1, l2, l3, l4, l5], st, w, k, n) else WP (MX1_appendBackwards g) Q (41, [l0, l1, l2, l3, l4, l5], st, w, k, n) := ifcn_e (a = 0) rfl dX1_appendBackwards_35 rfl (by decide)
theorem eX1_appendBackwards_38 : WP (MX1_appendBackwards g) Q (38, [l0, l1, l2, l3, l4, l5], st, w, k, n) = WP (MX1_appendBackwards g) Q (47, [l0, l1, l2, l3, l4, l5], st, w, k, n) := goto_e rfl dX1_appendBackwards_38 (by decide)
theorem eX1_appendBackwards_41 : WP (MX1_appendBackwards g) Q (41, [l0, l1, l2, l3, l4, some (.int a)], st, w, k, n) = WP (MX1_appendBackwards g) Q (44, [l0, l1, l2, l3, nl l4, some (.int (a + 1))], st, w, k, n) := Eq.trans (iinc_e (M := (MX1_appendBackwards g)) (L := [l0, l1, l2, l3, l4, some (.int a)]) (d := 1) rfl dX1_appendBackwards_41 (by decide) rfl) rfl
theorem eX1_appendBackwards_44 : WP (MX1_appendBackwards g) Q (44, [l0, l1, l2, l3, l4, l5], st, w, k, n) = WP (MX1_appendBackwards g) Q (5, [l0, l1, l2, l3, l4, l5], st, w, k, n) := goto_e rfl dX1_appendBackwards_44 (by decide)
theorem eX1_appendBackwards_47 : WP (MX1_appendBackwards g) Q (47, [l0, some (.long x), l2, l3, l4, l5], st, w, k, n) = WP (MX1_appendBackwards g) Q (48, [l0, some (.long x), l2, l3, l4, l5], .long x :: st, w, k, n) := Eq.trans (WP_at (M := (MX1_appendBackwards g)) rfl dX1_appendBackwards_47 (Or.inr rfl)) rfl
theorem eX1_appendBackwards_48 : WP (MX1_appendBackwards g) Q (48, [l0, l1, l2, l3, l4, l5], st, w, k, n) = WP (MX1_appendBackwards g) Q (49, [l0, l1, l2, l3, l4, l5], .long 0 :: st, w, k, n) := lconst_e rfl dX1_appendBackwards_48 (by decide)
theorem eX1_appendBackwards_49 : WP (MX1_appendBackwards g) Q (49, [l0, l1, l2, l3, l4, l5], .long y :: .long x :: st, w, k, n) = WP (MX1_appendBackwards g) Q (50, [l0, l1, l2, l3, l4, l5], .int (lg_cmp x y) :: st, w, k, n) := Eq.trans (WP_at (M := (MX1_appendBackwards g)) rfl dX1_appendBackwards_49 (Or.inr rfl)) rfl
theorem eX1_appendBackwards_50 : WP (MX1_appendBackwards g) Q (50, [l0, l1, l2, l3, l4, l5], .int a :: st, w, k, n) = if 0 ≤ a then WP (MX1_appendBackwards g) Q (60, [l0, l1, l2, l3, l4, l5], st, w, k, n) else WP (MX1_appendBackwards g) Q (53, [l0, l1, l2, l3, l4, l5], st, w, k, n) := ifc_e (0 ≤ a) rfl dX1_appendBackwards_50 rfl (by decide)
theorem eX1_appendBackwards_53 : WP (MX1_appendBackwards g) Q (53, [some (.ref p), l1, l2, l3, l4, l5], st, w, k, n) = WP (MX1_appendBackwards g) Q (54, [some (.ref p), l1, l2, l3, l4, l5], .ref p :: st, w, k, n) := Eq.trans (WP_at (M := (MX1_appendBackwards g)) rfl dX1_appendBackwards_53 (Or.inr rfl)) rfl
theorem eX1_appendBackwards_53N : WP (MX1_appendBackwards g) Q (53, [some .null, l1, l2, l3, l4, l5], st, w, k, n) = WP (MX1_appendBackwards g) Q (54, [some .null, l1, l2, l3, l4, l5], .null :: st, w, k, n) := Eq.trans (WP_at (M := (MX1_appendBackwards g)) rfl dX1_appendBackwards_53 (Or.inr rfl)) rfl
theorem eX1_appendBackwards_54 : WP (MX1_appendBackwards g) Q (54, [l0, l1, l2, l3, l4, l5], st, w, k, n) = WP (MX1_appendBackwards g) Q (56, [l0, l1, l2, l3, l4, l5], .int 45 :: st, w, k, n) := bipush_e rfl dX1_appendBackwards_54 (by decide)
theorem eX1_appendBackwards_56 {z0 : Int32} : WP (MX1_appendBackwards g) Q (56, [l0, l1, l2, l3, l4, l5], .int z0 :: .ref p :: st, w, k, n) = (go (rd g w p) 1 (fun _ => True) ∧ wt st ≤ 8 ∧ k + kfI [.ref p, .int z0] w ≤ 3 ∧ n + sfI [.ref p, .int z0] w ≤ 246 ∧ WP (MJ4_append_cf468 g (kfI [.ref p, .int z0] w) (sfI [.ref p, .int z0] w)) (kx (fun v w' => WP (MX1_appendBackwards g) Q (59, [l0, l1, l2, l3, l4, l5], v.toList ++ st, w', k + kfI [.ref p, .int z0] w, n + sfI [.ref p, .int z0] w)) (fun E w' => Q (.inr E) w')) (0, [some (.ref p), some (.int z0)], [], w, 0, 0)) := csV (M := (MX1_appendBackwards g)) (mc := kfI) (ms := sfI) (As := [.int z0]) (rest := st) (MJ4_append_cf468 g (kfI [.ref p, .int z0] w) (sfI [.ref p, .int z0] w)) rfl rfl dX1_appendBackwards_56 (by exact fun h => nomatch (show (none : Option Nat) = some 11 from h)) (by exact fun h => nomatch (show (none : Option Nat) = some 15 from h)) rfl rfl (by decide) (Nat.le_of_ble_eq_true rfl) (Nat.le_of_ble_eq_true rfl) rfl
theorem eX1_appendBackwards_59 : WP (MX1_appendBackwards g) Q (59, [l0, l1, l2, l3, l4, l5], .int a :: st, w, k, n) = WP (MX1_appendBackwards g) Q (60, [l0, l1, l2, l3, l4, l5], st, w, k, n) := by rw [WP_at (M := (MX1_appendBackwards g)) rfl dX1_appendBackwards_59 (Or.inr rfl)]; exact and_t rfl
theorem eX1_appendBackwards_59R : WP (MX1_appendBackwards g) Q (59, [l0, l1, l2, l3, l4, l5], .ref p :: st, w, k, n) = WP (MX1_appendBackwards g) Q (60, [l0, l1, l2, l3, l4, l5], st, w, k, n) := by rw [WP_at (M := (MX1_appendBackwards g)) rfl dX1_appendBackwards_59 (Or.inr rfl)]; exact and_t rfl
theorem eX1_appendBackwards_59N : WP (MX1_appendBackwards g) Q (59, [l0, l1, l2, l3, l4, l5], .null :: st, w, k, n) = WP (MX1_appendBackwards g) Q (60, [l0, l1, l2, l3, l4, l5], st, w, k, n) := by rw [WP_at (M := (MX1_appendBackwards g)) rfl dX1_appendBackwards_59 (Or.inr rfl)]; exact and_t rfl
theorem eX1_appendBackwards_60 : WP (MX1_appendBackwards g) Q (60, [l0, l1, l2, l3, l4, l5], [], w, k, n) = (k ≤ 3 ∧ n ≤ 246 ∧ Q (.inl none) w) := vret_e rfl dX1_appendBackwards_60 rfl
end
theorem wk_533 : (.constantLong RX1 264 (10) : Jvm.Cond) ∈ WS := WS_t2 235 rfl rfl
theorem wk_540 : (.code yJ4_append_bf812 cJ4_append_bf812 2 (some (.object "java/lang/StringBuilder")) : Jvm.Cond) ∈ WS := WS_t3 2 rfl rfl
theorem wk_537 : (.methodLink RX1 271 yJ4_append_bf812 : Jvm.Cond) ∈ WS := WS_t2 239 rfl rfl
theorem wk_538 : (.instanceMethod yJ4_append_bf812 : Jvm.Cond) ∈ WS := WS_t3 0 rfl rfl
theorem wk_539 : (.selects RJ4 yJ4_append_bf812 yJ4_append_bf812 : Jvm.Cond) ∈ WS := WS_t3 1 rfl rfl
theorem wk_628 : (.code yJ4_append_cf468 cJ4_append_cf468 2 (some (.object "java/lang/StringBuilder")) : Jvm.Cond) ∈ WS := WS_t3 90 rfl rfl
theorem wk_625 : (.methodLink RX1 146 yJ4_append_cf468 : Jvm.Cond) ∈ WS := WS_t3 87 rfl rfl
theorem wk_626 : (.instanceMethod yJ4_append_cf468 : Jvm.Cond) ∈ WS := WS_t3 88 rfl rfl
theorem wk_627 : (.selects RJ4 yJ4_append_cf468 yJ4_append_cf468 : Jvm.Cond) ∈ WS := WS_t3 89 rfl rfl
theorem wk_534 : (.methodLink RX1 266 Lib.Math.abs.name : Jvm.Cond) ∈ WS := WS_t2 236 rfl rfl
theorem vMX1_appendBackwards {l : Launch} (hl : l.stackTraces = false) (G : GT) : vM l G (MX1_appendBackwards (gg G)) := ⟨fun i c j h => lookup_all (l := (MX1_appendBackwards (gg G)).fld) (P := fun i e => vFld RX1 i e.1 e.2) (all_n) i (c, j) h, fun i c fs h => lookup_all (l := (MX1_appendBackwards (gg G)).new) (P := fun i e => vNew RX1 i e.1 e.2) (all_n) i (c, fs) h, lookup_all (l := (MX1_appendBackwards (gg G)).anew) (P := fun i e => vANew RX1 i e) (all_n), lookup_all (l := (MX1_appendBackwards (gg G)).lng) (P := fun i e => Jvm.Cond.constantLong RX1 i e ∈ WS) (all_c (wk_533) (all_n)), lookup_all (l := (MX1_appendBackwards (gg G)).thr) (P := fun i e => vThr RX1 cX1_appendBackwards i e) (all_n), fun h => absurd rfl h, lookup_all (l := (MX1_appendBackwards (gg G)).cal) (P := fun i e => vCal l G RX1 i e) (all_c (⟨cJ4_append_bf812, 2, some (.object "java/lang/StringBuilder"), fun y hy => by subst hy; exact ⟨by decide, ⟨_, wk_540, okJ4_append_bf812 hl, Or.inl ⟨Nat.ne_of_beq_eq_false rfl, rfl⟩⟩, wk_75, ⟨(by decide : yJ4_append_bf812.cls ≠ "java/lang/invoke/MethodHandle"), (by decide : yJ4_append_bf812.cls ≠ "java/lang/invoke/VarHandle")⟩, ⟨(by decide +kernel : (parseMethodDescriptor yJ4_append_bf812.desc).map (fun d => d.parameters.length + 1) = some 2), wk_537, wk_538, wk_539, (RJ4, TJ4, 4), rfl, rfl⟩⟩⟩) (all_c (⟨cJ4_append_cf468, 2, some (.object "java/lang/StringBuilder"), fun y hy => by subst hy; exact ⟨by decide, ⟨_, wk_628, okJ4_append_cf468 hl, Or.inl ⟨Nat.ne_of_beq_eq_false rfl, rfl⟩⟩, wk_75, ⟨(by decide : yJ4_append_cf468.cls ≠ "java/lang/invoke/MethodHandle"), (by decide : yJ4_append_cf468.cls ≠ "java/lang/invoke/VarHandle")⟩, ⟨(by decide +kernel : (parseMethodDescriptor yJ4_append_cf468.desc).map (fun d => d.parameters.length + 1) = some 2), wk_625, wk_626, wk_627, (RJ4, TJ4, 4), rfl, rfl⟩⟩⟩) (all_n))), lookup_all (l := (MX1_appendBackwards (gg G)).stt) (P := fun i e => vStt G RX1 i e) (all_c (Or.inr (Or.inr (Or.inr (Or.inr (Or.inr (Or.inr (Or.inr (Or.inl ⟨rfl, wk_534⟩)))))))) (all_n)), lookup_all (l := (MX1_appendBackwards (gg G)).cst) (P := fun i e => vCst RX1 i e) (all_n), fun h => absurd rfl h, rfl, all_n⟩
theorem okX1_appendBackwards {l : Launch} (hl : l.stackTraces = false) {G : GT} : ∀ (args : List Value) (w : Hw) (S : Ot → Hw → Prop), spOf (MX1_appendBackwards (gg G)) args w S → CX l G yX1_appendBackwards (.code yX1_appendBackwards cX1_appendBackwards 6 (none)) 6 3 246 args w S := CX_sp (M := MX1_appendBackwards (gg G)) (y := yX1_appendBackwards) hl (by decide) rfl (vMX1_appendBackwards hl G) (fun h => by cases h) rfl
/-! Rangecard.numberText(I)Ljava/lang/String; -/
theorem dX1_numberText_0 : decode cX1_numberText 0 = .ok (.iload_n 1, 1) := by decide +kernel
theorem dX1_numberText_1 : decode cX1_numberText 1 = .ok (.invokestatic 35, 3) := by decide +kernel
theorem dX1_numberText_4 : decode cX1_numberText 4 = .ok (.new 64, 3) := by decide +kernel
theorem dX1_numberText_7 : decode cX1_numberText 7 = .ok (.dup, 1) := by decide +kernel
theorem dX1_numberText_8 : decode cX1_numberText 8 = .ok (.invokespecial 66, 3) := by decide +kernel
theorem dX1_numberText_11 : decode cX1_numberText 11 = .ok (.astore_n 2, 1) := by decide +kernel
theorem dX1_numberText_12 : decode cX1_numberText 12 = .ok (.aload_n 2, 1) := by decide +kernel
theorem dX1_numberText_13 : decode cX1_numberText 13 = .ok (.aload_n 0, 1) := by decide +kernel
theorem dX1_numberText_14 : decode cX1_numberText 14 = .ok (.getfield 9, 3) := by decide +kernel
theorem dX1_numberText_17 : decode cX1_numberText 17 = .ok (.iload_n 1, 1) := by decide +kernel
theorem dX1_numberText_18 : decode cX1_numberText 18 = .ok (.laload, 1) := by decide +kernel
theorem dX1_numberText_19 : decode cX1_numberText 19 = .ok (.invokestatic 67, 3) := by decide +kernel
theorem dX1_numberText_22 : decode cX1_numberText 22 = .ok (.aload_n 2, 1) := by decide +kernel
theorem dX1_numberText_23 : decode cX1_numberText 23 = .ok (.invokevirtual 71, 3) := by decide +kernel
theorem dX1_numberText_26 : decode cX1_numberText 26 = .ok (.invokevirtual 75, 3) := by decide +kernel
theorem dX1_numberText_29 : decode cX1_numberText 29 = .ok (.areturn, 1) := by decide +kernel
def MX1_numberText (g : RO) : MT := ((RX1, cX1_numberText, 3, 7, 8, 366, false, some (.object "java/lang/String")), [(9, 5, 0)], [(64, 1, [.null, .int 0, .int 0, .int 0])], [], [], [], 0, [(35, 0, 1, 0, 6, (fun _ _ => 1), (fun _ _ => 6), yX1_needNumber, spOf (MX1_needNumber g)), (66, 4, 1, 1, 2, (fun _ _ => 1), (fun _ _ => 16), yJ4_init_da8c8, spOf (MJ4_init_da8c8 g)), (67, 0, 2, 0, 6, (fun _ _ => 3), (fun _ _ => 246), yX1_appendBackwards, spOf (MX1_appendBackwards g)), (71, 2, 1, 1, 3, (fun _ _ => 0), (fun _ _ => 0), yJ4_reverse_43fcb, spOf (MJ4_reverse_43fcb g)), (75, 2, 1, 1, 6, (fun _ _ => 2), (fun _ _ => 94), yJ4_toString_0e30d, spOf (MJ4_toString_0e30d g))], [], [], 0, [], [], g)
section
variable {g : RO} {Q : Ot → Hw → Prop} {st : List Value} {w : Hw} {k n p q : Nat} {a b : Int32} {x y : Int64} {u v : Value} {l0 l1 l2 : Option Value}
theorem eX1_numberText_0 : WP (MX1_numberText g) Q (0, [l0, some (.int a), l2], st, w, k, n) = WP (MX1_numberText g) Q (1, [l0, some (.int a), l2], .int a :: st, w, k, n) := Eq.trans (WP_at (M := (MX1_numberText g)) rfl dX1_numberText_0 (Or.inr rfl)) rfl
theorem eX1_numberText_1 {z0 : Int32} : WP (MX1_numberText g) Q (1, [l0, l1, l2], .int z0 :: st, w, k, n) = (wt st ≤ 8 ∧ k + 1 ≤ 8 ∧ n + 6 ≤ 366 ∧ WP (MX1_needNumber g) (kx (fun v w' => WP (MX1_numberText g) Q (4, [l0, l1, l2], v.toList ++ st, w', k + 1, n + 6)) (fun E w' => Q (.inr E) w')) (0, [some (.int z0)], [], w, 0, 0)) := csS (M := (MX1_numberText g)) (mc := (fun _ _ => 1)) (ms := (fun _ _ => 6)) (As := [.int z0]) (rest := st) (MX1_needNumber g) rfl rfl dX1_numberText_1 (Nat.ne_of_beq_eq_false rfl) (by exact fun h => nomatch (show (none : Option Nat) = some 12 from h)) (by exact fun h => nomatch (show (none : Option Nat) = some 13 from h)) (by exact fun h => nomatch (show (none : Option Nat) = some 14 from h)) rfl rfl (by decide) (Nat.le_of_ble_eq_true rfl) (Nat.le_of_ble_eq_true rfl) rfl
theorem eX1_numberText_4 : WP (MX1_numberText g) Q (4, [l0, l1, l2], st, w, k, n) = (k + 1 ≤ 8 ∧ n + 4 ≤ 366 ∧ ∀ q : Nat, rd g w q = none → WP (MX1_numberText g) Q (7, [l0, l1, l2], .ref q :: st, upw w q (.inr (1, [.null, .int 0, .int 0, .int 0])), k + 1, n + 4)) := Eq.trans (new_e (M := (MX1_numberText g)) (fs := [.null, .int 0, .int 0, .int 0]) rfl dX1_numberText_4 rfl) rfl
theorem eX1_numberText_7 : WP (MX1_numberText g) Q (7, [l0, l1, l2], .int a :: st, w, k, n) = WP (MX1_numberText g) Q (8, [l0, l1, l2], .int a :: .int a :: st, w, k, n) := by rw [WP_at (M := (MX1_numberText g)) rfl dX1_numberText_7 (Or.inr rfl)]; exact and_t rfl
theorem eX1_numberText_7R : WP (MX1_numberText g) Q (7, [l0, l1, l2], .ref p :: st, w, k, n) = WP (MX1_numberText g) Q (8, [l0, l1, l2], .ref p :: .ref p :: st, w, k, n) := by rw [WP_at (M := (MX1_numberText g)) rfl dX1_numberText_7 (Or.inr rfl)]; exact and_t rfl
theorem eX1_numberText_8  : WP (MX1_numberText g) Q (8, [l0, l1, l2], .ref p :: st, w, k, n) = (wt st ≤ 8 ∧ k + 1 ≤ 8 ∧ n + 16 ≤ 366 ∧ WP (MJ4_init_da8c8 g) (kx (fun v w' => WP (MX1_numberText g) Q (11, [l0, l1, l2], v.toList ++ st, w', k + 1, n + 16)) (fun E w' => Q (.inr E) w')) (0, [some (.ref p)], [], w, 0, 0)) := csI (M := (MX1_numberText g)) (mc := (fun _ _ => 1)) (ms := (fun _ _ => 16)) (As := []) (rest := st) (MJ4_init_da8c8 g) rfl rfl dX1_numberText_8 (Nat.ne_of_beq_eq_false rfl) rfl rfl (Nat.le_of_ble_eq_true rfl) (Nat.le_of_ble_eq_true rfl) rfl
theorem eX1_numberText_11 : WP (MX1_numberText g) Q (11, [l0, l1, l2], .ref p :: st, w, k, n) = WP (MX1_numberText g) Q (12, [l0, nl l1, some (.ref p)], st, w, k, n) := by rw [WP_at (M := (MX1_numberText g)) rfl dX1_numberText_11 (Or.inr rfl)]; exact and_t (Nat.le_of_ble_eq_true rfl)
theorem eX1_numberText_11N : WP (MX1_numberText g) Q (11, [l0, l1, l2], .null :: st, w, k, n) = WP (MX1_numberText g) Q (12, [l0, nl l1, some (.null)], st, w, k, n) := by rw [WP_at (M := (MX1_numberText g)) rfl dX1_numberText_11 (Or.inr rfl)]; exact and_t (Nat.le_of_ble_eq_true rfl)
theorem eX1_numberText_12 : WP (MX1_numberText g) Q (12, [l0, l1, some (.ref p)], st, w, k, n) = WP (MX1_numberText g) Q (13, [l0, l1, some (.ref p)], .ref p :: st, w, k, n) := Eq.trans (WP_at (M := (MX1_numberText g)) rfl dX1_numberText_12 (Or.inr rfl)) rfl
theorem eX1_numberText_12N : WP (MX1_numberText g) Q (12, [l0, l1, some .null], st, w, k, n) = WP (MX1_numberText g) Q (13, [l0, l1, some .null], .null :: st, w, k, n) := Eq.trans (WP_at (M := (MX1_numberText g)) rfl dX1_numberText_12 (Or.inr rfl)) rfl
theorem eX1_numberText_13 : WP (MX1_numberText g) Q (13, [some (.ref p), l1, l2], st, w, k, n) = WP (MX1_numberText g) Q (14, [some (.ref p), l1, l2], .ref p :: st, w, k, n) := Eq.trans (WP_at (M := (MX1_numberText g)) rfl dX1_numberText_13 (Or.inr rfl)) rfl
theorem eX1_numberText_13N : WP (MX1_numberText g) Q (13, [some .null, l1, l2], st, w, k, n) = WP (MX1_numberText g) Q (14, [some .null, l1, l2], .null :: st, w, k, n) := Eq.trans (WP_at (M := (MX1_numberText g)) rfl dX1_numberText_13 (Or.inr rfl)) rfl
theorem eX1_numberText_14 : WP (MX1_numberText g) Q (14, [l0, l1, l2], .ref p :: st, w, k, n) = go (rd g w p) 5 fun fs => ∃ v, fs[0]? = some v ∧ WP (MX1_numberText g) Q (17, [l0, l1, l2], v :: st, w, k, n) := get_e rfl dX1_numberText_14 rfl
theorem eX1_numberText_17 : WP (MX1_numberText g) Q (17, [l0, some (.int a), l2], st, w, k, n) = WP (MX1_numberText g) Q (18, [l0, some (.int a), l2], .int a :: st, w, k, n) := Eq.trans (WP_at (M := (MX1_numberText g)) rfl dX1_numberText_17 (Or.inr rfl)) rfl
theorem eX1_numberText_18 : WP (MX1_numberText g) Q (18, [l0, l1, l2], .int a :: .ref p :: st, w, k, n) = gl (rd g w p) 0 fun N f => vp_in a N ∧ WP (MX1_numberText g) Q (19, [l0, l1, l2], .long (f a.toNatClampNeg) :: st, w, k, n) := Eq.trans (WP_at (M := (MX1_numberText g)) rfl dX1_numberText_18 (Or.inr rfl)) rfl
theorem eX1_numberText_19R {z0 : Nat} {z1 : Int64} : WP (MX1_numberText g) Q (19, [l0, l1, l2], .long z1 :: .ref z0 :: st, w, k, n) = (wt st ≤ 8 ∧ k + 3 ≤ 8 ∧ n + 246 ≤ 366 ∧ WP (MX1_appendBackwards g) (kx (fun v w' => WP (MX1_numberText g) Q (22, [l0, l1, l2], v.toList ++ st, w', k + 3, n + 246)) (fun E w' => Q (.inr E) w')) (0, [some (.ref z0), some (.long z1), none, none, none, none], [], w, 0, 0)) := csS (M := (MX1_numberText g)) (mc := (fun _ _ => 3)) (ms := (fun _ _ => 246)) (As := [.ref z0, .long z1]) (rest := st) (MX1_appendBackwards g) rfl rfl dX1_numberText_19 (Nat.ne_of_beq_eq_false rfl) (by exact fun h => nomatch (show (none : Option Nat) = some 12 from h)) (by exact fun h => nomatch (show (none : Option Nat) = some 13 from h)) (by exact fun h => nomatch (show (none : Option Nat) = some 14 from h)) rfl rfl (by decide) (Nat.le_of_ble_eq_true rfl) (Nat.le_of_ble_eq_true rfl) rfl
theorem eX1_numberText_19N {z1 : Int64} : WP (MX1_numberText g) Q (19, [l0, l1, l2], .long z1 :: .null :: st, w, k, n) = (wt st ≤ 8 ∧ k + 3 ≤ 8 ∧ n + 246 ≤ 366 ∧ WP (MX1_appendBackwards g) (kx (fun v w' => WP (MX1_numberText g) Q (22, [l0, l1, l2], v.toList ++ st, w', k + 3, n + 246)) (fun E w' => Q (.inr E) w')) (0, [some .null, some (.long z1), none, none, none, none], [], w, 0, 0)) := csS (M := (MX1_numberText g)) (mc := (fun _ _ => 3)) (ms := (fun _ _ => 246)) (As := [.null, .long z1]) (rest := st) (MX1_appendBackwards g) rfl rfl dX1_numberText_19 (Nat.ne_of_beq_eq_false rfl) (by exact fun h => nomatch (show (none : Option Nat) = some 12 from h)) (by exact fun h => nomatch (show (none : Option Nat) = some 13 from h)) (by exact fun h => nomatch (show (none : Option Nat) = some 14 from h)) rfl rfl (by decide) (Nat.le_of_ble_eq_true rfl) (Nat.le_of_ble_eq_true rfl) rfl
theorem eX1_numberText_22 : WP (MX1_numberText g) Q (22, [l0, l1, some (.ref p)], st, w, k, n) = WP (MX1_numberText g) Q (23, [l0, l1, some (.ref p)], .ref p :: st, w, k, n) := Eq.trans (WP_at (M := (MX1_numberText g)) rfl dX1_numberText_22 (Or.inr rfl)) rfl
theorem eX1_numberText_22N : WP (MX1_numberText g) Q (22, [l0, l1, some .null], st, w, k, n) = WP (MX1_numberText g) Q (23, [l0, l1, some .null], .null :: st, w, k, n) := Eq.trans (WP_at (M := (MX1_numberText g)) rfl dX1_numberText_22 (Or.inr rfl)) rfl
theorem eX1_numberText_23  : WP (MX1_numberText g) Q (23, [l0, l1, l2], .ref p :: st, w, k, n) = (go (rd g w p) 1 (fun _ => True) ∧ wt st ≤ 8 ∧ k + 0 ≤ 8 ∧ n + 0 ≤ 366 ∧ WP (MJ4_reverse_43fcb g) (kx (fun v w' => WP (MX1_numberText g) Q (26, [l0, l1, l2], v.toList ++ st, w', k + 0, n + 0)) (fun E w' => Q (.inr E) w')) (0, [some (.ref p)], [], w, 0, 0)) := csV (M := (MX1_numberText g)) (mc := (fun _ _ => 0)) (ms := (fun _ _ => 0)) (As := []) (rest := st) (MJ4_reverse_43fcb g) rfl rfl dX1_numberText_23 (by exact fun h => nomatch (show (none : Option Nat) = some 11 from h)) (by exact fun h => nomatch (show (none : Option Nat) = some 15 from h)) rfl rfl (by decide) (Nat.le_of_ble_eq_true rfl) (Nat.le_of_ble_eq_true rfl) rfl
theorem eX1_numberText_26  : WP (MX1_numberText g) Q (26, [l0, l1, l2], .ref p :: st, w, k, n) = (go (rd g w p) 1 (fun _ => True) ∧ wt st ≤ 8 ∧ k + 2 ≤ 8 ∧ n + 94 ≤ 366 ∧ WP (MJ4_toString_0e30d g) (kx (fun v w' => WP (MX1_numberText g) Q (29, [l0, l1, l2], v.toList ++ st, w', k + 2, n + 94)) (fun E w' => Q (.inr E) w')) (0, [some (.ref p)], [], w, 0, 0)) := csV (M := (MX1_numberText g)) (mc := (fun _ _ => 2)) (ms := (fun _ _ => 94)) (As := []) (rest := st) (MJ4_toString_0e30d g) rfl rfl dX1_numberText_26 (by exact fun h => nomatch (show (none : Option Nat) = some 11 from h)) (by exact fun h => nomatch (show (none : Option Nat) = some 15 from h)) rfl rfl (by decide) (Nat.le_of_ble_eq_true rfl) (Nat.le_of_ble_eq_true rfl) rfl
theorem eX1_numberText_29 : WP (MX1_numberText g) Q (29, [l0, l1, l2], [.ref p], w, k, n) = (k ≤ 8 ∧ n ≤ 366 ∧ Q (.inl (some (.ref p))) w) := aretR_e rfl dX1_numberText_29 rfl
theorem eX1_numberText_29N : WP (MX1_numberText g) Q (29, [l0, l1, l2], [.null], w, k, n) = (k ≤ 8 ∧ n ≤ 366 ∧ Q (.inl (some .null)) w) := aretN_e rfl dX1_numberText_29 rfl
end
theorem wk_499 : (.classLink RX1 64 RJ4 : Jvm.Cond) ∈ WS := WS_t2 201 rfl rfl
theorem vN_RX1_64 : vNew RX1 64 1 [.null, .int 0, .int 0, .int 0] := ⟨RJ4, TJ4, tyJ4, rfl, iW_1, tyJ4_ok, wk_499, wk_500, wk_75, fun j hj => by match j, hj with | 0, _ => rfl | 1, _ => rfl | 2, _ => rfl | 3, _ => rfl | j + 4, hj => exact absurd hj (Nat.not_lt.mpr (Nat.le_add_left _ _))⟩
theorem wk_501 : (.methodLink RX1 66 yJ4_init_da8c8 : Jvm.Cond) ∈ WS := WS_t2 203 rfl rfl
theorem wk_532 : (.code yX1_appendBackwards cX1_appendBackwards 6 (none) : Jvm.Cond) ∈ WS := WS_t2 234 rfl rfl
theorem wk_530 : (.methodLink RX1 67 yX1_appendBackwards : Jvm.Cond) ∈ WS := WS_t2 232 rfl rfl
theorem wk_531 : (.static yX1_appendBackwards : Jvm.Cond) ∈ WS := WS_t2 233 rfl rfl
theorem wk_669 : (.code yJ4_reverse_43fcb cJ4_reverse_43fcb 1 (some (.object "java/lang/StringBuilder")) : Jvm.Cond) ∈ WS := WS_t3 131 rfl rfl
theorem wk_666 : (.methodLink RX1 71 yJ4_reverse_43fcb : Jvm.Cond) ∈ WS := WS_t3 128 rfl rfl
theorem wk_667 : (.instanceMethod yJ4_reverse_43fcb : Jvm.Cond) ∈ WS := WS_t3 129 rfl rfl
theorem wk_668 : (.selects RJ4 yJ4_reverse_43fcb yJ4_reverse_43fcb : Jvm.Cond) ∈ WS := WS_t3 130 rfl rfl
theorem wk_700 : (.methodLink RX1 75 yJ4_toString_0e30d : Jvm.Cond) ∈ WS := WS_t3 162 rfl rfl
theorem vMX1_numberText {l : Launch} (hl : l.stackTraces = false) (G : GT) : vM l G (MX1_numberText (gg G)) := ⟨fun i c j h => lookup_all (l := (MX1_numberText (gg G)).fld) (P := fun i e => vFld RX1 i e.1 e.2) (all_c (vF_RX1_9) (all_n)) i (c, j) h, fun i c fs h => lookup_all (l := (MX1_numberText (gg G)).new) (P := fun i e => vNew RX1 i e.1 e.2) (all_c (vN_RX1_64) (all_n)) i (c, fs) h, lookup_all (l := (MX1_numberText (gg G)).anew) (P := fun i e => vANew RX1 i e) (all_n), lookup_all (l := (MX1_numberText (gg G)).lng) (P := fun i e => Jvm.Cond.constantLong RX1 i e ∈ WS) (all_n), lookup_all (l := (MX1_numberText (gg G)).thr) (P := fun i e => vThr RX1 cX1_numberText i e) (all_n), fun h => absurd rfl h, lookup_all (l := (MX1_numberText (gg G)).cal) (P := fun i e => vCal l G RX1 i e) (all_c (⟨cX1_needNumber, 1, none, fun y hy => by subst hy; exact ⟨by decide, ⟨_, wk_355, okX1_needNumber hl, Or.inl ⟨Nat.ne_of_beq_eq_false rfl, rfl⟩⟩, wk_59, ⟨(by decide : yX1_needNumber.cls ≠ "java/lang/invoke/MethodHandle"), (by decide : yX1_needNumber.cls ≠ "java/lang/invoke/VarHandle")⟩, ⟨(by decide +kernel : (parseMethodDescriptor yX1_needNumber.desc).map (fun d => d.parameters.length) = some 1), wk_353, wk_354⟩⟩⟩) (all_c (⟨cJ4_init_da8c8, 1, none, fun y hy => by subst hy; exact ⟨by decide, ⟨_, wk_503, okJ4_init_da8c8 hl, Or.inl ⟨Nat.ne_of_beq_eq_false rfl, rfl⟩⟩, wk_75, ⟨(by decide : yJ4_init_da8c8.cls ≠ "java/lang/invoke/MethodHandle"), (by decide : yJ4_init_da8c8.cls ≠ "java/lang/invoke/VarHandle")⟩, ⟨(by decide +kernel : (parseMethodDescriptor yJ4_init_da8c8.desc).map (fun d => d.parameters.length + 1) = some 1), rfl, wk_501, wk_502, rfl⟩⟩⟩) (all_c (⟨cX1_appendBackwards, 6, none, fun y hy => by subst hy; exact ⟨by decide, ⟨_, wk_532, okX1_appendBackwards hl, Or.inl ⟨Nat.ne_of_beq_eq_false rfl, rfl⟩⟩, wk_59, ⟨(by decide : yX1_appendBackwards.cls ≠ "java/lang/invoke/MethodHandle"), (by decide : yX1_appendBackwards.cls ≠ "java/lang/invoke/VarHandle")⟩, ⟨(by decide +kernel : (parseMethodDescriptor yX1_appendBackwards.desc).map (fun d => d.parameters.length) = some 2), wk_530, wk_531⟩⟩⟩) (all_c (⟨cJ4_reverse_43fcb, 1, some (.object "java/lang/StringBuilder"), fun y hy => by subst hy; exact ⟨by decide, ⟨_, wk_669, okJ4_reverse_43fcb hl, Or.inl ⟨Nat.ne_of_beq_eq_false rfl, rfl⟩⟩, wk_75, ⟨(by decide : yJ4_reverse_43fcb.cls ≠ "java/lang/invoke/MethodHandle"), (by decide : yJ4_reverse_43fcb.cls ≠ "java/lang/invoke/VarHandle")⟩, ⟨(by decide +kernel : (parseMethodDescriptor yJ4_reverse_43fcb.desc).map (fun d => d.parameters.length + 1) = some 1), wk_666, wk_667, wk_668, (RJ4, TJ4, 4), rfl, rfl⟩⟩⟩) (all_c (⟨cJ4_toString_0e30d, 1, some (.object "java/lang/String"), fun y hy => by subst hy; exact ⟨by decide, ⟨_, wk_703, okJ4_toString_0e30d hl, Or.inl ⟨Nat.ne_of_beq_eq_false rfl, rfl⟩⟩, wk_75, ⟨(by decide : yJ4_toString_0e30d.cls ≠ "java/lang/invoke/MethodHandle"), (by decide : yJ4_toString_0e30d.cls ≠ "java/lang/invoke/VarHandle")⟩, ⟨(by decide +kernel : (parseMethodDescriptor yJ4_toString_0e30d.desc).map (fun d => d.parameters.length + 1) = some 1), wk_700, wk_701, wk_702, (RJ4, TJ4, 4), rfl, rfl⟩⟩⟩) (all_n)))))), lookup_all (l := (MX1_numberText (gg G)).stt) (P := fun i e => vStt G RX1 i e) (all_n), lookup_all (l := (MX1_numberText (gg G)).cst) (P := fun i e => vCst RX1 i e) (all_n), fun h => absurd rfl h, rfl, all_n⟩
theorem okX1_numberText {l : Launch} (hl : l.stackTraces = false) {G : GT} : ∀ (args : List Value) (w : Hw) (S : Ot → Hw → Prop), spOf (MX1_numberText (gg G)) args w S → CX l G yX1_numberText (.code yX1_numberText cX1_numberText 3 (some (.object "java/lang/String"))) 7 8 366 args w S := CX_sp (M := MX1_numberText (gg G)) (y := yX1_numberText) hl (by decide) rfl (vMX1_numberText hl G) (fun h => by cases h) rfl
/-! Rangecard.cardText(I)Ljava/lang/String; -/
theorem dX1_cardText_0 : decode cX1_cardText 0 = .ok (.iload_n 1, 1) := by decide +kernel
theorem dX1_cardText_1 : decode cX1_cardText 1 = .ok (.invokestatic 79, 3) := by decide +kernel
theorem dX1_cardText_4 : decode cX1_cardText 4 = .ok (.aload_n 0, 1) := by decide +kernel
theorem dX1_cardText_5 : decode cX1_cardText 5 = .ok (.getfield 15, 3) := by decide +kernel
theorem dX1_cardText_8 : decode cX1_cardText 8 = .ok (.iload_n 1, 1) := by decide +kernel
theorem dX1_cardText_9 : decode cX1_cardText 9 = .ok (.aaload, 1) := by decide +kernel
theorem dX1_cardText_10 : decode cX1_cardText 10 = .ok (.astore_n 2, 1) := by decide +kernel
theorem dX1_cardText_11 : decode cX1_cardText 11 = .ok (.aload_n 2, 1) := by decide +kernel
theorem dX1_cardText_12 : decode cX1_cardText 12 = .ok (.ifnonnull 6, 3) := by decide +kernel
theorem dX1_cardText_15 : decode cX1_cardText 15 = .ok (.ldc 144, 2) := by decide +kernel
theorem dX1_cardText_17 : decode cX1_cardText 17 = .ok (.areturn, 1) := by decide +kernel
theorem dX1_cardText_18 : decode cX1_cardText 18 = .ok (.new 64, 3) := by decide +kernel
theorem dX1_cardText_21 : decode cX1_cardText 21 = .ok (.dup, 1) := by decide +kernel
theorem dX1_cardText_22 : decode cX1_cardText 22 = .ok (.invokespecial 66, 3) := by decide +kernel
theorem dX1_cardText_25 : decode cX1_cardText 25 = .ok (.astore_n 3, 1) := by decide +kernel
theorem dX1_cardText_26 : decode cX1_cardText 26 = .ok (.iconst 3, 1) := by decide +kernel
theorem dX1_cardText_27 : decode cX1_cardText 27 = .ok (.istore 4, 2) := by decide +kernel
theorem dX1_cardText_29 : decode cX1_cardText 29 = .ok (.iload 4, 2) := by decide +kernel
theorem dX1_cardText_31 : decode cX1_cardText 31 = .ok (.ifCond .lt 31, 3) := by decide +kernel
theorem dX1_cardText_34 : decode cX1_cardText 34 = .ok (.aload_n 3, 1) := by decide +kernel
theorem dX1_cardText_35 : decode cX1_cardText 35 = .ok (.aload_n 2, 1) := by decide +kernel
theorem dX1_cardText_36 : decode cX1_cardText 36 = .ok (.iload 4, 2) := by decide +kernel
theorem dX1_cardText_38 : decode cX1_cardText 38 = .ok (.invokevirtual 141, 3) := by decide +kernel
theorem dX1_cardText_41 : decode cX1_cardText 41 = .ok (.invokestatic 67, 3) := by decide +kernel
theorem dX1_cardText_44 : decode cX1_cardText 44 = .ok (.iload 4, 2) := by decide +kernel
theorem dX1_cardText_46 : decode cX1_cardText 46 = .ok (.ifCond .le 10, 3) := by decide +kernel
theorem dX1_cardText_49 : decode cX1_cardText 49 = .ok (.aload_n 3, 1) := by decide +kernel
theorem dX1_cardText_50 : decode cX1_cardText 50 = .ok (.bipush 32, 2) := by decide +kernel
theorem dX1_cardText_52 : decode cX1_cardText 52 = .ok (.invokevirtual 146, 3) := by decide +kernel
theorem dX1_cardText_55 : decode cX1_cardText 55 = .ok (.pop, 1) := by decide +kernel
theorem dX1_cardText_56 : decode cX1_cardText 56 = .ok (.iinc 4 (-1), 3) := by decide +kernel
theorem dX1_cardText_59 : decode cX1_cardText 59 = .ok (.goto (-30), 3) := by decide +kernel
theorem dX1_cardText_62 : decode cX1_cardText 62 = .ok (.aload_n 3, 1) := by decide +kernel
theorem dX1_cardText_63 : decode cX1_cardText 63 = .ok (.invokevirtual 71, 3) := by decide +kernel
theorem dX1_cardText_66 : decode cX1_cardText 66 = .ok (.invokevirtual 75, 3) := by decide +kernel
theorem dX1_cardText_69 : decode cX1_cardText 69 = .ok (.areturn, 1) := by decide +kernel
def MX1_cardText (g : RO) : MT := ((RX1, cX1_cardText, 5, 7, 19, 1530, false, some (.object "java/lang/String")), [(15, 5, 1)], [(64, 1, [.null, .int 0, .int 0, .int 0])], [], [], [], 0, [(79, 0, 1, 0, 6, (fun _ _ => 1), (fun _ _ => 6), yX1_needCard, spOf (MX1_needCard g)), (66, 4, 1, 1, 2, (fun _ _ => 1), (fun _ _ => 16), yJ4_init_da8c8, spOf (MJ4_init_da8c8 g)), (141, 3, 2, 4, 1, (fun _ _ => 0), (fun _ _ => 0), yX0_endAt, spOf (MX0_endAt g)), (67, 0, 2, 0, 6, (fun _ _ => 3), (fun _ _ => 246), yX1_appendBackwards, spOf (MX1_appendBackwards g)), (146, 2, 2, 1, 5, kfI, sfI, yJ4_append_cf468, spF (MJ4_append_cf468 g) kfI sfI), (71, 2, 1, 1, 3, (fun _ _ => 0), (fun _ _ => 0), yJ4_reverse_43fcb, spOf (MJ4_reverse_43fcb g)), (75, 2, 1, 1, 6, (fun _ _ => 2), (fun _ _ => 94), yJ4_toString_0e30d, spOf (MJ4_toString_0e30d g))], [(144, 20)], [], 0, [], [], g)
section
variable {g : RO} {Q : Ot → Hw → Prop} {st : List Value} {w : Hw} {k n p q : Nat} {a b : Int32} {x y : Int64} {u v : Value} {l0 l1 l2 l3 l4 : Option Value}
theorem eX1_cardText_0 : WP (MX1_cardText g) Q (0, [l0, some (.int a), l2, l3, l4], st, w, k, n) = WP (MX1_cardText g) Q (1, [l0, some (.int a), l2, l3, l4], .int a :: st, w, k, n) := Eq.trans (WP_at (M := (MX1_cardText g)) rfl dX1_cardText_0 (Or.inr rfl)) rfl
theorem eX1_cardText_1 {z0 : Int32} : WP (MX1_cardText g) Q (1, [l0, l1, l2, l3, l4], .int z0 :: st, w, k, n) = (wt st ≤ 8 ∧ k + 1 ≤ 19 ∧ n + 6 ≤ 1530 ∧ WP (MX1_needCard g) (kx (fun v w' => WP (MX1_cardText g) Q (4, [l0, l1, l2, l3, l4], v.toList ++ st, w', k + 1, n + 6)) (fun E w' => Q (.inr E) w')) (0, [some (.int z0)], [], w, 0, 0)) := csS (M := (MX1_cardText g)) (mc := (fun _ _ => 1)) (ms := (fun _ _ => 6)) (As := [.int z0]) (rest := st) (MX1_needCard g) rfl rfl dX1_cardText_1 (Nat.ne_of_beq_eq_false rfl) (by exact fun h => nomatch (show (none : Option Nat) = some 12 from h)) (by exact fun h => nomatch (show (none : Option Nat) = some 13 from h)) (by exact fun h => nomatch (show (none : Option Nat) = some 14 from h)) rfl rfl (by decide) (Nat.le_of_ble_eq_true rfl) (Nat.le_of_ble_eq_true rfl) rfl
theorem eX1_cardText_4 : WP (MX1_cardText g) Q (4, [some (.ref p), l1, l2, l3, l4], st, w, k, n) = WP (MX1_cardText g) Q (5, [some (.ref p), l1, l2, l3, l4], .ref p :: st, w, k, n) := Eq.trans (WP_at (M := (MX1_cardText g)) rfl dX1_cardText_4 (Or.inr rfl)) rfl
theorem eX1_cardText_4N : WP (MX1_cardText g) Q (4, [some .null, l1, l2, l3, l4], st, w, k, n) = WP (MX1_cardText g) Q (5, [some .null, l1, l2, l3, l4], .null :: st, w, k, n) := Eq.trans (WP_at (M := (MX1_cardText g)) rfl dX1_cardText_4 (Or.inr rfl)) rfl
theorem eX1_cardText_5 : WP (MX1_cardText g) Q (5, [l0, l1, l2, l3, l4], .ref p :: st, w, k, n) = go (rd g w p) 5 fun fs => ∃ v, fs[1]? = some v ∧ WP (MX1_cardText g) Q (8, [l0, l1, l2, l3, l4], v :: st, w, k, n) := get_e rfl dX1_cardText_5 rfl
theorem eX1_cardText_8 : WP (MX1_cardText g) Q (8, [l0, some (.int a), l2, l3, l4], st, w, k, n) = WP (MX1_cardText g) Q (9, [l0, some (.int a), l2, l3, l4], .int a :: st, w, k, n) := Eq.trans (WP_at (M := (MX1_cardText g)) rfl dX1_cardText_8 (Or.inr rfl)) rfl
theorem eX1_cardText_9 : WP (MX1_cardText g) Q (9, [l0, l1, l2, l3, l4], .int a :: .ref p :: st, w, k, n) = gq (rd g w p) fun t N f => (t = 4 ∨ t = 5) ∧ vp_in a N ∧ WP (MX1_cardText g) Q (10, [l0, l1, l2, l3, l4], va_rf (f a.toNatClampNeg) :: st, w, k, n) := Eq.trans (WP_at (M := (MX1_cardText g)) rfl dX1_cardText_9 (Or.inr rfl)) rfl
theorem eX1_cardText_10 : WP (MX1_cardText g) Q (10, [l0, l1, l2, l3, l4], .ref p :: st, w, k, n) = WP (MX1_cardText g) Q (11, [l0, nl l1, some (.ref p), l3, l4], st, w, k, n) := by rw [WP_at (M := (MX1_cardText g)) rfl dX1_cardText_10 (Or.inr rfl)]; exact and_t (Nat.le_of_ble_eq_true rfl)
theorem eX1_cardText_10N : WP (MX1_cardText g) Q (10, [l0, l1, l2, l3, l4], .null :: st, w, k, n) = WP (MX1_cardText g) Q (11, [l0, nl l1, some (.null), l3, l4], st, w, k, n) := by rw [WP_at (M := (MX1_cardText g)) rfl dX1_cardText_10 (Or.inr rfl)]; exact and_t (Nat.le_of_ble_eq_true rfl)
theorem eX1_cardText_11 : WP (MX1_cardText g) Q (11, [l0, l1, some (.ref p), l3, l4], st, w, k, n) = WP (MX1_cardText g) Q (12, [l0, l1, some (.ref p), l3, l4], .ref p :: st, w, k, n) := Eq.trans (WP_at (M := (MX1_cardText g)) rfl dX1_cardText_11 (Or.inr rfl)) rfl
theorem eX1_cardText_11N : WP (MX1_cardText g) Q (11, [l0, l1, some .null, l3, l4], st, w, k, n) = WP (MX1_cardText g) Q (12, [l0, l1, some .null, l3, l4], .null :: st, w, k, n) := Eq.trans (WP_at (M := (MX1_cardText g)) rfl dX1_cardText_11 (Or.inr rfl)) rfl
theorem eX1_cardText_12R : WP (MX1_cardText g) Q (12, [l0, l1, l2, l3, l4], .ref p :: st, w, k, n) = WP (MX1_cardText g) Q (18, [l0, l1, l2, l3, l4], st, w, k, n) := ifnonnullR_e rfl dX1_cardText_12 (tgt := 18) (by decide)
theorem eX1_cardText_12N : WP (MX1_cardText g) Q (12, [l0, l1, l2, l3, l4], .null :: st, w, k, n) = WP (MX1_cardText g) Q (15, [l0, l1, l2, l3, l4], st, w, k, n) := ifnonnullN_e rfl dX1_cardText_12 (tgt := 18) (by decide)
theorem eX1_cardText_15 : WP (MX1_cardText g) Q (15, [l0, l1, l2, l3, l4], st, w, k, n) = WP (MX1_cardText g) Q (17, [l0, l1, l2, l3, l4], g.1 20 :: st, w, k, n) := ldc_e rfl dX1_cardText_15 rfl (by decide) rfl
theorem eX1_cardText_17 : WP (MX1_cardText g) Q (17, [l0, l1, l2, l3, l4], [.ref p], w, k, n) = (k ≤ 19 ∧ n ≤ 1530 ∧ Q (.inl (some (.ref p))) w) := aretR_e rfl dX1_cardText_17 rfl
theorem eX1_cardText_17N : WP (MX1_cardText g) Q (17, [l0, l1, l2, l3, l4], [.null], w, k, n) = (k ≤ 19 ∧ n ≤ 1530 ∧ Q (.inl (some .null)) w) := aretN_e rfl dX1_cardText_17 rfl
theorem eX1_cardText_18 : WP (MX1_cardText g) Q (18, [l0, l1, l2, l3, l4], st, w, k, n) = (k + 1 ≤ 19 ∧ n + 4 ≤ 1530 ∧ ∀ q : Nat, rd g w q = none → WP (MX1_cardText g) Q (21, [l0, l1, l2, l3, l4], .ref q :: st, upw w q (.inr (1, [.null, .int 0, .int 0, .int 0])), k + 1, n + 4)) := Eq.trans (new_e (M := (MX1_cardText g)) (fs := [.null, .int 0, .int 0, .int 0]) rfl dX1_cardText_18 rfl) rfl
theorem eX1_cardText_21 : WP (MX1_cardText g) Q (21, [l0, l1, l2, l3, l4], .int a :: st, w, k, n) = WP (MX1_cardText g) Q (22, [l0, l1, l2, l3, l4], .int a :: .int a :: st, w, k, n) := by rw [WP_at (M := (MX1_cardText g)) rfl dX1_cardText_21 (Or.inr rfl)]; exact and_t rfl
theorem eX1_cardText_21R : WP (MX1_cardText g) Q (21, [l0, l1, l2, l3, l4], .ref p :: st, w, k, n) = WP (MX1_cardText g) Q (22, [l0, l1, l2, l3, l4], .ref p :: .ref p :: st, w, k, n) := by rw [WP_at (M := (MX1_cardText g)) rfl dX1_cardText_21 (Or.inr rfl)]; exact and_t rfl
theorem eX1_cardText_22  : WP (MX1_cardText g) Q (22, [l0, l1, l2, l3, l4], .ref p :: st, w, k, n) = (wt st ≤ 8 ∧ k + 1 ≤ 19 ∧ n + 16 ≤ 1530 ∧ WP (MJ4_init_da8c8 g) (kx (fun v w' => WP (MX1_cardText g) Q (25, [l0, l1, l2, l3, l4], v.toList ++ st, w', k + 1, n + 16)) (fun E w' => Q (.inr E) w')) (0, [some (.ref p)], [], w, 0, 0)) := csI (M := (MX1_cardText g)) (mc := (fun _ _ => 1)) (ms := (fun _ _ => 16)) (As := []) (rest := st) (MJ4_init_da8c8 g) rfl rfl dX1_cardText_22 (Nat.ne_of_beq_eq_false rfl) rfl rfl (Nat.le_of_ble_eq_true rfl) (Nat.le_of_ble_eq_true rfl) rfl
theorem eX1_cardText_25 : WP (MX1_cardText g) Q (25, [l0, l1, l2, l3, l4], .ref p :: st, w, k, n) = WP (MX1_cardText g) Q (26, [l0, l1, nl l2, some (.ref p), l4], st, w, k, n) := by rw [WP_at (M := (MX1_cardText g)) rfl dX1_cardText_25 (Or.inr rfl)]; exact and_t (Nat.le_of_ble_eq_true rfl)
theorem eX1_cardText_25N : WP (MX1_cardText g) Q (25, [l0, l1, l2, l3, l4], .null :: st, w, k, n) = WP (MX1_cardText g) Q (26, [l0, l1, nl l2, some (.null), l4], st, w, k, n) := by rw [WP_at (M := (MX1_cardText g)) rfl dX1_cardText_25 (Or.inr rfl)]; exact and_t (Nat.le_of_ble_eq_true rfl)
theorem eX1_cardText_26 : WP (MX1_cardText g) Q (26, [l0, l1, l2, l3, l4], st, w, k, n) = WP (MX1_cardText g) Q (27, [l0, l1, l2, l3, l4], .int 3 :: st, w, k, n) := iconst_e rfl dX1_cardText_26 (by decide)
theorem eX1_cardText_27 : WP (MX1_cardText g) Q (27, [l0, l1, l2, l3, l4], .int a :: st, w, k, n) = WP (MX1_cardText g) Q (29, [l0, l1, l2, nl l3, some (.int a)], st, w, k, n) := by rw [WP_at (M := (MX1_cardText g)) rfl dX1_cardText_27 (Or.inr rfl)]; exact and_t (Nat.le_of_ble_eq_true rfl)
theorem eX1_cardText_29 : WP (MX1_cardText g) Q (29, [l0, l1, l2, l3, some (.int a)], st, w, k, n) = WP (MX1_cardText g) Q (31, [l0, l1, l2, l3, some (.int a)], .int a :: st, w, k, n) := Eq.trans (WP_at (M := (MX1_cardText g)) rfl dX1_cardText_29 (Or.inr rfl)) rfl
theorem eX1_cardText_31 : WP (MX1_cardText g) Q (31, [l0, l1, l2, l3, l4], .int a :: st, w, k, n) = if a < 0 then WP (MX1_cardText g) Q (62, [l0, l1, l2, l3, l4], st, w, k, n) else WP (MX1_cardText g) Q (34, [l0, l1, l2, l3, l4], st, w, k, n) := ifc_e (a < 0) rfl dX1_cardText_31 rfl (by decide)
theorem eX1_cardText_34 : WP (MX1_cardText g) Q (34, [l0, l1, l2, some (.ref p), l4], st, w, k, n) = WP (MX1_cardText g) Q (35, [l0, l1, l2, some (.ref p), l4], .ref p :: st, w, k, n) := Eq.trans (WP_at (M := (MX1_cardText g)) rfl dX1_cardText_34 (Or.inr rfl)) rfl
theorem eX1_cardText_34N : WP (MX1_cardText g) Q (34, [l0, l1, l2, some .null, l4], st, w, k, n) = WP (MX1_cardText g) Q (35, [l0, l1, l2, some .null, l4], .null :: st, w, k, n) := Eq.trans (WP_at (M := (MX1_cardText g)) rfl dX1_cardText_34 (Or.inr rfl)) rfl
theorem eX1_cardText_35 : WP (MX1_cardText g) Q (35, [l0, l1, some (.ref p), l3, l4], st, w, k, n) = WP (MX1_cardText g) Q (36, [l0, l1, some (.ref p), l3, l4], .ref p :: st, w, k, n) := Eq.trans (WP_at (M := (MX1_cardText g)) rfl dX1_cardText_35 (Or.inr rfl)) rfl
theorem eX1_cardText_35N : WP (MX1_cardText g) Q (35, [l0, l1, some .null, l3, l4], st, w, k, n) = WP (MX1_cardText g) Q (36, [l0, l1, some .null, l3, l4], .null :: st, w, k, n) := Eq.trans (WP_at (M := (MX1_cardText g)) rfl dX1_cardText_35 (Or.inr rfl)) rfl
theorem eX1_cardText_36 : WP (MX1_cardText g) Q (36, [l0, l1, l2, l3, some (.int a)], st, w, k, n) = WP (MX1_cardText g) Q (38, [l0, l1, l2, l3, some (.int a)], .int a :: st, w, k, n) := Eq.trans (WP_at (M := (MX1_cardText g)) rfl dX1_cardText_36 (Or.inr rfl)) rfl
theorem eX1_cardText_38 {z0 : Int32} : WP (MX1_cardText g) Q (38, [l0, l1, l2, l3, l4], .int z0 :: .ref p :: st, w, k, n) = (go (rd g w p) 4 (fun _ => True) ∧ wt st ≤ 8 ∧ k + 0 ≤ 19 ∧ n + 0 ≤ 1530 ∧ WP (MX0_endAt g) (kx (fun v w' => WP (MX1_cardText g) Q (41, [l0, l1, l2, l3, l4], v.toList ++ st, w', k + 0, n + 0)) (fun E w' => Q (.inr E) w')) (0, [some (.ref p), some (.int z0)], [], w, 0, 0)) := csV (M := (MX1_cardText g)) (mc := (fun _ _ => 0)) (ms := (fun _ _ => 0)) (As := [.int z0]) (rest := st) (MX0_endAt g) rfl rfl dX1_cardText_38 (by exact fun h => nomatch (show (none : Option Nat) = some 11 from h)) (by exact fun h => nomatch (show (none : Option Nat) = some 15 from h)) rfl rfl (by decide) (Nat.le_of_ble_eq_true rfl) (Nat.le_of_ble_eq_true rfl) rfl
theorem eX1_cardText_41R {z0 : Nat} {z1 : Int64} : WP (MX1_cardText g) Q (41, [l0, l1, l2, l3, l4], .long z1 :: .ref z0 :: st, w, k, n) = (wt st ≤ 8 ∧ k + 3 ≤ 19 ∧ n + 246 ≤ 1530 ∧ WP (MX1_appendBackwards g) (kx (fun v w' => WP (MX1_cardText g) Q (44, [l0, l1, l2, l3, l4], v.toList ++ st, w', k + 3, n + 246)) (fun E w' => Q (.inr E) w')) (0, [some (.ref z0), some (.long z1), none, none, none, none], [], w, 0, 0)) := csS (M := (MX1_cardText g)) (mc := (fun _ _ => 3)) (ms := (fun _ _ => 246)) (As := [.ref z0, .long z1]) (rest := st) (MX1_appendBackwards g) rfl rfl dX1_cardText_41 (Nat.ne_of_beq_eq_false rfl) (by exact fun h => nomatch (show (none : Option Nat) = some 12 from h)) (by exact fun h => nomatch (show (none : Option Nat) = some 13 from h)) (by exact fun h => nomatch (show (none : Option Nat) = some 14 from h)) rfl rfl (by decide) (Nat.le_of_ble_eq_true rfl) (Nat.le_of_ble_eq_true rfl) rfl
theorem eX1_cardText_41N {z1 : Int64} : WP (MX1_cardText g) Q (41, [l0, l1, l2, l3, l4], .long z1 :: .null :: st, w, k, n) = (wt st ≤ 8 ∧ k + 3 ≤ 19 ∧ n + 246 ≤ 1530 ∧ WP (MX1_appendBackwards g) (kx (fun v w' => WP (MX1_cardText g) Q (44, [l0, l1, l2, l3, l4], v.toList ++ st, w', k + 3, n + 246)) (fun E w' => Q (.inr E) w')) (0, [some .null, some (.long z1), none, none, none, none], [], w, 0, 0)) := csS (M := (MX1_cardText g)) (mc := (fun _ _ => 3)) (ms := (fun _ _ => 246)) (As := [.null, .long z1]) (rest := st) (MX1_appendBackwards g) rfl rfl dX1_cardText_41 (Nat.ne_of_beq_eq_false rfl) (by exact fun h => nomatch (show (none : Option Nat) = some 12 from h)) (by exact fun h => nomatch (show (none : Option Nat) = some 13 from h)) (by exact fun h => nomatch (show (none : Option Nat) = some 14 from h)) rfl rfl (by decide) (Nat.le_of_ble_eq_true rfl) (Nat.le_of_ble_eq_true rfl) rfl
theorem eX1_cardText_44 : WP (MX1_cardText g) Q (44, [l0, l1, l2, l3, some (.int a)], st, w, k, n) = WP (MX1_cardText g) Q (46, [l0, l1, l2, l3, some (.int a)], .int a :: st, w, k, n) := Eq.trans (WP_at (M := (MX1_cardText g)) rfl dX1_cardText_44 (Or.inr rfl)) rfl
theorem eX1_cardText_46 : WP (MX1_cardText g) Q (46, [l0, l1, l2, l3, l4], .int a :: st, w, k, n) = if a ≤ 0 then WP (MX1_cardText g) Q (56, [l0, l1, l2, l3, l4], st, w, k, n) else WP (MX1_cardText g) Q (49, [l0, l1, l2, l3, l4], st, w, k, n) := ifc_e (a ≤ 0) rfl dX1_cardText_46 rfl (by decide)
theorem eX1_cardText_49 : WP (MX1_cardText g) Q (49, [l0, l1, l2, some (.ref p), l4], st, w, k, n) = WP (MX1_cardText g) Q (50, [l0, l1, l2, some (.ref p), l4], .ref p :: st, w, k, n) := Eq.trans (WP_at (M := (MX1_cardText g)) rfl dX1_cardText_49 (Or.inr rfl)) rfl
theorem eX1_cardText_49N : WP (MX1_cardText g) Q (49, [l0, l1, l2, some .null, l4], st, w, k, n) = WP (MX1_cardText g) Q (50, [l0, l1, l2, some .null, l4], .null :: st, w, k, n) := Eq.trans (WP_at (M := (MX1_cardText g)) rfl dX1_cardText_49 (Or.inr rfl)) rfl
theorem eX1_cardText_50 : WP (MX1_cardText g) Q (50, [l0, l1, l2, l3, l4], st, w, k, n) = WP (MX1_cardText g) Q (52, [l0, l1, l2, l3, l4], .int 32 :: st, w, k, n) := bipush_e rfl dX1_cardText_50 (by decide)
theorem eX1_cardText_52 {z0 : Int32} : WP (MX1_cardText g) Q (52, [l0, l1, l2, l3, l4], .int z0 :: .ref p :: st, w, k, n) = (go (rd g w p) 1 (fun _ => True) ∧ wt st ≤ 8 ∧ k + kfI [.ref p, .int z0] w ≤ 19 ∧ n + sfI [.ref p, .int z0] w ≤ 1530 ∧ WP (MJ4_append_cf468 g (kfI [.ref p, .int z0] w) (sfI [.ref p, .int z0] w)) (kx (fun v w' => WP (MX1_cardText g) Q (55, [l0, l1, l2, l3, l4], v.toList ++ st, w', k + kfI [.ref p, .int z0] w, n + sfI [.ref p, .int z0] w)) (fun E w' => Q (.inr E) w')) (0, [some (.ref p), some (.int z0)], [], w, 0, 0)) := csV (M := (MX1_cardText g)) (mc := kfI) (ms := sfI) (As := [.int z0]) (rest := st) (MJ4_append_cf468 g (kfI [.ref p, .int z0] w) (sfI [.ref p, .int z0] w)) rfl rfl dX1_cardText_52 (by exact fun h => nomatch (show (none : Option Nat) = some 11 from h)) (by exact fun h => nomatch (show (none : Option Nat) = some 15 from h)) rfl rfl (by decide) (Nat.le_of_ble_eq_true rfl) (Nat.le_of_ble_eq_true rfl) rfl
theorem eX1_cardText_55 : WP (MX1_cardText g) Q (55, [l0, l1, l2, l3, l4], .int a :: st, w, k, n) = WP (MX1_cardText g) Q (56, [l0, l1, l2, l3, l4], st, w, k, n) := by rw [WP_at (M := (MX1_cardText g)) rfl dX1_cardText_55 (Or.inr rfl)]; exact and_t rfl
theorem eX1_cardText_55R : WP (MX1_cardText g) Q (55, [l0, l1, l2, l3, l4], .ref p :: st, w, k, n) = WP (MX1_cardText g) Q (56, [l0, l1, l2, l3, l4], st, w, k, n) := by rw [WP_at (M := (MX1_cardText g)) rfl dX1_cardText_55 (Or.inr rfl)]; exact and_t rfl
theorem eX1_cardText_55N : WP (MX1_cardText g) Q (55, [l0, l1, l2, l3, l4], .null :: st, w, k, n) = WP (MX1_cardText g) Q (56, [l0, l1, l2, l3, l4], st, w, k, n) := by rw [WP_at (M := (MX1_cardText g)) rfl dX1_cardText_55 (Or.inr rfl)]; exact and_t rfl
theorem eX1_cardText_56 : WP (MX1_cardText g) Q (56, [l0, l1, l2, l3, some (.int a)], st, w, k, n) = WP (MX1_cardText g) Q (59, [l0, l1, l2, nl l3, some (.int (a + (-1)))], st, w, k, n) := Eq.trans (iinc_e (M := (MX1_cardText g)) (L := [l0, l1, l2, l3, some (.int a)]) (d := (-1)) rfl dX1_cardText_56 (by decide) rfl) rfl
theorem eX1_cardText_59 : WP (MX1_cardText g) Q (59, [l0, l1, l2, l3, l4], st, w, k, n) = WP (MX1_cardText g) Q (29, [l0, l1, l2, l3, l4], st, w, k, n) := goto_e rfl dX1_cardText_59 (by decide)
theorem eX1_cardText_62 : WP (MX1_cardText g) Q (62, [l0, l1, l2, some (.ref p), l4], st, w, k, n) = WP (MX1_cardText g) Q (63, [l0, l1, l2, some (.ref p), l4], .ref p :: st, w, k, n) := Eq.trans (WP_at (M := (MX1_cardText g)) rfl dX1_cardText_62 (Or.inr rfl)) rfl
theorem eX1_cardText_62N : WP (MX1_cardText g) Q (62, [l0, l1, l2, some .null, l4], st, w, k, n) = WP (MX1_cardText g) Q (63, [l0, l1, l2, some .null, l4], .null :: st, w, k, n) := Eq.trans (WP_at (M := (MX1_cardText g)) rfl dX1_cardText_62 (Or.inr rfl)) rfl
theorem eX1_cardText_63  : WP (MX1_cardText g) Q (63, [l0, l1, l2, l3, l4], .ref p :: st, w, k, n) = (go (rd g w p) 1 (fun _ => True) ∧ wt st ≤ 8 ∧ k + 0 ≤ 19 ∧ n + 0 ≤ 1530 ∧ WP (MJ4_reverse_43fcb g) (kx (fun v w' => WP (MX1_cardText g) Q (66, [l0, l1, l2, l3, l4], v.toList ++ st, w', k + 0, n + 0)) (fun E w' => Q (.inr E) w')) (0, [some (.ref p)], [], w, 0, 0)) := csV (M := (MX1_cardText g)) (mc := (fun _ _ => 0)) (ms := (fun _ _ => 0)) (As := []) (rest := st) (MJ4_reverse_43fcb g) rfl rfl dX1_cardText_63 (by exact fun h => nomatch (show (none : Option Nat) = some 11 from h)) (by exact fun h => nomatch (show (none : Option Nat) = some 15 from h)) rfl rfl (by decide) (Nat.le_of_ble_eq_true rfl) (Nat.le_of_ble_eq_true rfl) rfl
theorem eX1_cardText_66  : WP (MX1_cardText g) Q (66, [l0, l1, l2, l3, l4], .ref p :: st, w, k, n) = (go (rd g w p) 1 (fun _ => True) ∧ wt st ≤ 8 ∧ k + 2 ≤ 19 ∧ n + 94 ≤ 1530 ∧ WP (MJ4_toString_0e30d g) (kx (fun v w' => WP (MX1_cardText g) Q (69, [l0, l1, l2, l3, l4], v.toList ++ st, w', k + 2, n + 94)) (fun E w' => Q (.inr E) w')) (0, [some (.ref p)], [], w, 0, 0)) := csV (M := (MX1_cardText g)) (mc := (fun _ _ => 2)) (ms := (fun _ _ => 94)) (As := []) (rest := st) (MJ4_toString_0e30d g) rfl rfl dX1_cardText_66 (by exact fun h => nomatch (show (none : Option Nat) = some 11 from h)) (by exact fun h => nomatch (show (none : Option Nat) = some 15 from h)) rfl rfl (by decide) (Nat.le_of_ble_eq_true rfl) (Nat.le_of_ble_eq_true rfl) rfl
theorem eX1_cardText_69 : WP (MX1_cardText g) Q (69, [l0, l1, l2, l3, l4], [.ref p], w, k, n) = (k ≤ 19 ∧ n ≤ 1530 ∧ Q (.inl (some (.ref p))) w) := aretR_e rfl dX1_cardText_69 rfl
theorem eX1_cardText_69N : WP (MX1_cardText g) Q (69, [l0, l1, l2, l3, l4], [.null], w, k, n) = (k ≤ 19 ∧ n ≤ 1530 ∧ Q (.inl (some .null)) w) := aretN_e rfl dX1_cardText_69 rfl
end
theorem vMX1_cardText {l : Launch} (hl : l.stackTraces = false) (G : GT) : vM l G (MX1_cardText (gg G)) := ⟨fun i c j h => lookup_all (l := (MX1_cardText (gg G)).fld) (P := fun i e => vFld RX1 i e.1 e.2) (all_c (vF_RX1_15) (all_n)) i (c, j) h, fun i c fs h => lookup_all (l := (MX1_cardText (gg G)).new) (P := fun i e => vNew RX1 i e.1 e.2) (all_c (vN_RX1_64) (all_n)) i (c, fs) h, lookup_all (l := (MX1_cardText (gg G)).anew) (P := fun i e => vANew RX1 i e) (all_n), lookup_all (l := (MX1_cardText (gg G)).lng) (P := fun i e => Jvm.Cond.constantLong RX1 i e ∈ WS) (all_n), lookup_all (l := (MX1_cardText (gg G)).thr) (P := fun i e => vThr RX1 cX1_cardText i e) (all_n), fun h => absurd rfl h, lookup_all (l := (MX1_cardText (gg G)).cal) (P := fun i e => vCal l G RX1 i e) (all_c (⟨cX1_needCard, 1, none, fun y hy => by subst hy; exact ⟨by decide, ⟨_, wk_818, okX1_needCard hl, Or.inl ⟨Nat.ne_of_beq_eq_false rfl, rfl⟩⟩, wk_59, ⟨(by decide : yX1_needCard.cls ≠ "java/lang/invoke/MethodHandle"), (by decide : yX1_needCard.cls ≠ "java/lang/invoke/VarHandle")⟩, ⟨(by decide +kernel : (parseMethodDescriptor yX1_needCard.desc).map (fun d => d.parameters.length) = some 1), wk_816, wk_817⟩⟩⟩) (all_c (⟨cJ4_init_da8c8, 1, none, fun y hy => by subst hy; exact ⟨by decide, ⟨_, wk_503, okJ4_init_da8c8 hl, Or.inl ⟨Nat.ne_of_beq_eq_false rfl, rfl⟩⟩, wk_75, ⟨(by decide : yJ4_init_da8c8.cls ≠ "java/lang/invoke/MethodHandle"), (by decide : yJ4_init_da8c8.cls ≠ "java/lang/invoke/VarHandle")⟩, ⟨(by decide +kernel : (parseMethodDescriptor yJ4_init_da8c8.desc).map (fun d => d.parameters.length + 1) = some 1), rfl, wk_501, wk_502, rfl⟩⟩⟩) (all_c (⟨cX0_endAt, 2, some .long, fun y hy => by subst hy; exact ⟨by decide, ⟨_, wk_211, okX0_endAt hl, Or.inl ⟨Nat.ne_of_beq_eq_false rfl, rfl⟩⟩, wk_84, ⟨(by decide : yX0_endAt.cls ≠ "java/lang/invoke/MethodHandle"), (by decide : yX0_endAt.cls ≠ "java/lang/invoke/VarHandle")⟩, ⟨(by decide +kernel : (parseMethodDescriptor yX0_endAt.desc).map (fun d => d.parameters.length + 1) = some 2), ⟨"Rangecard", List.mem_of_getElem? (i := 208) (by decide +kernel : lw_tbl[208]? = some (.methodLinkNest RX1 141 yX0_endAt "Rangecard"))⟩, wk_210, wk_5, (RX0, TX0, 4), rfl, rfl⟩⟩⟩) (all_c (⟨cX1_appendBackwards, 6, none, fun y hy => by subst hy; exact ⟨by decide, ⟨_, wk_532, okX1_appendBackwards hl, Or.inl ⟨Nat.ne_of_beq_eq_false rfl, rfl⟩⟩, wk_59, ⟨(by decide : yX1_appendBackwards.cls ≠ "java/lang/invoke/MethodHandle"), (by decide : yX1_appendBackwards.cls ≠ "java/lang/invoke/VarHandle")⟩, ⟨(by decide +kernel : (parseMethodDescriptor yX1_appendBackwards.desc).map (fun d => d.parameters.length) = some 2), wk_530, wk_531⟩⟩⟩) (all_c (⟨cJ4_append_cf468, 2, some (.object "java/lang/StringBuilder"), fun y hy => by subst hy; exact ⟨by decide, ⟨_, wk_628, okJ4_append_cf468 hl, Or.inl ⟨Nat.ne_of_beq_eq_false rfl, rfl⟩⟩, wk_75, ⟨(by decide : yJ4_append_cf468.cls ≠ "java/lang/invoke/MethodHandle"), (by decide : yJ4_append_cf468.cls ≠ "java/lang/invoke/VarHandle")⟩, ⟨(by decide +kernel : (parseMethodDescriptor yJ4_append_cf468.desc).map (fun d => d.parameters.length + 1) = some 2), wk_625, wk_626, wk_627, (RJ4, TJ4, 4), rfl, rfl⟩⟩⟩) (all_c (⟨cJ4_reverse_43fcb, 1, some (.object "java/lang/StringBuilder"), fun y hy => by subst hy; exact ⟨by decide, ⟨_, wk_669, okJ4_reverse_43fcb hl, Or.inl ⟨Nat.ne_of_beq_eq_false rfl, rfl⟩⟩, wk_75, ⟨(by decide : yJ4_reverse_43fcb.cls ≠ "java/lang/invoke/MethodHandle"), (by decide : yJ4_reverse_43fcb.cls ≠ "java/lang/invoke/VarHandle")⟩, ⟨(by decide +kernel : (parseMethodDescriptor yJ4_reverse_43fcb.desc).map (fun d => d.parameters.length + 1) = some 1), wk_666, wk_667, wk_668, (RJ4, TJ4, 4), rfl, rfl⟩⟩⟩) (all_c (⟨cJ4_toString_0e30d, 1, some (.object "java/lang/String"), fun y hy => by subst hy; exact ⟨by decide, ⟨_, wk_703, okJ4_toString_0e30d hl, Or.inl ⟨Nat.ne_of_beq_eq_false rfl, rfl⟩⟩, wk_75, ⟨(by decide : yJ4_toString_0e30d.cls ≠ "java/lang/invoke/MethodHandle"), (by decide : yJ4_toString_0e30d.cls ≠ "java/lang/invoke/VarHandle")⟩, ⟨(by decide +kernel : (parseMethodDescriptor yJ4_toString_0e30d.desc).map (fun d => d.parameters.length + 1) = some 1), wk_700, wk_701, wk_702, (RJ4, TJ4, 4), rfl, rfl⟩⟩⟩) (all_n)))))))), lookup_all (l := (MX1_cardText (gg G)).stt) (P := fun i e => vStt G RX1 i e) (all_c (Or.inr (Or.inl ⟨"-", by decide⟩)) (all_n)), lookup_all (l := (MX1_cardText (gg G)).cst) (P := fun i e => vCst RX1 i e) (all_n), fun h => absurd rfl h, rfl, all_n⟩
theorem okX1_cardText {l : Launch} (hl : l.stackTraces = false) {G : GT} : ∀ (args : List Value) (w : Hw) (S : Ot → Hw → Prop), spOf (MX1_cardText (gg G)) args w S → CX l G yX1_cardText (.code yX1_cardText cX1_cardText 5 (some (.object "java/lang/String"))) 7 19 1530 args w S := CX_sp (M := MX1_cardText (gg G)) (y := yX1_cardText) hl (by decide) rfl (vMX1_cardText hl G) (fun h => by cases h) rfl
end
/-! 67.21.range.lean.txt -/
section
section
variable {g : RO} {Q : Ot → Hw → Prop} {w0 w : Hw} {x nA cA lA : Nat} {kn : Int32}
set_option maxHeartbeats 4000000 in
theorem sX0_isInOrder {a0 : Int64} {a1 : Int64} {a2 : Int64} {a3 : Int64} (hQ : ∀ v : Bool, Q (.inl (some (.int (bI v)))) w) : WP (MX0_isInOrder g) Q (0, [some (.long a0), none, some (.long a1), none, some (.long a2), none, some (.long a3), none], [], w, 0, 0) := by
  have hQt : Q (.inl (some (.int 1))) w := hQ true
  have hQf : Q (.inl (some (.int 0))) w := hQ false
  repeat' first
    | with_reducible assumption
    | with_reducible refine And.intro ?_ ?_
    | with_reducible exact vpi6 (by assumption) (by assumption)
    | with_reducible exact vpi8 (by assumption) (by assumption)
    | with_reducible refine go_R (by assumption) ?_
    | with_reducible exact hQ _
    | with_reducible exact hQt
    | with_reducible exact hQf
    | simp only [eX0_isInOrder_0, eX0_isInOrder_1, eX0_isInOrder_2, eX0_isInOrder_3, eX0_isInOrder_6, eX0_isInOrder_8, eX0_isInOrder_10, eX0_isInOrder_11, eX0_isInOrder_14, eX0_isInOrder_15, eX0_isInOrder_17, eX0_isInOrder_18, eX0_isInOrder_21, eX0_isInOrder_22, eX0_isInOrder_24, eX0_isInOrder_25, eX0_isInOrder_28, eX0_isInOrder_29, eX0_isInOrder_32, eX0_isInOrder_33, ite_le, n45, n54, true_or, or_true, false_or, or_false, false_and, and_false, kx_l, kx_r, go_s, gl_s, gi_s, gb_s2, gb_s3, gq_s, wt_nil, wt_int, wt_long, wt_ref, wt_null, nl_int, nl_long, nl_ref, nl_null, nl_none, rf_n, rf_s, rf_st, tl_s, tl_n, g0, gS, ex1, nb_b, nb_0, nb_1, nf_i, nf_l, nf_ra, nf_ro, nf_na, nf_no, nf_b0, nf_z0, t45_4, t45_5, true_and, and_true, List.set_cons_zero, List.set_cons_succ, List.length_cons, List.length_nil, rd_s, upw_s, ne_eq, not_false_eq_true, Nat.zero_add, Nat.add_zero]
    | split
    | with_reducible intro _
    | omega
set_option maxHeartbeats 4000000 in
theorem sX0_holds {p : Nat} {a0 : Int64} (hp : isR w p) (hQ : ∀ v : Bool, Q (.inl (some (.int (bI v)))) w) : WP (MX0_holds g) Q (0, [some (.ref p), some (.long a0), none], [], w, 0, 0) := by
  have hQt : Q (.inl (some (.int 1))) w := hQ true
  have hQf : Q (.inl (some (.int 0))) w := hQ false
  repeat' first
    | with_reducible assumption
    | with_reducible refine And.intro ?_ ?_
    | with_reducible exact vpi6 (by assumption) (by assumption)
    | with_reducible exact vpi8 (by assumption) (by assumption)
    | with_reducible refine go_R (by assumption) ?_
    | with_reducible exact hQ _
    | with_reducible exact hQt
    | with_reducible exact hQf
    | simp only [eX0_holds_0, eX0_holds_0N, eX0_holds_1, eX0_holds_4, eX0_holds_5, eX0_holds_6, eX0_holds_9, eX0_holds_10, eX0_holds_10N, eX0_holds_11, eX0_holds_14, eX0_holds_15, eX0_holds_18, eX0_holds_19, eX0_holds_22, eX0_holds_23, ite_le, n45, n54, true_or, or_true, false_or, or_false, false_and, and_false, kx_l, kx_r, go_s, gl_s, gi_s, gb_s2, gb_s3, gq_s, wt_nil, wt_int, wt_long, wt_ref, wt_null, nl_int, nl_long, nl_ref, nl_null, nl_none, rf_n, rf_s, rf_st, tl_s, tl_n, g0, gS, ex1, nb_b, nb_0, nb_1, nf_i, nf_l, nf_ra, nf_ro, nf_na, nf_no, nf_b0, nf_z0, t45_4, t45_5, true_and, and_true, List.set_cons_zero, List.set_cons_succ, List.length_cons, List.length_nil, rd_s, upw_s, ne_eq, not_false_eq_true, Nat.zero_add, Nat.add_zero]
    | split
    | with_reducible intro _
    | omega
set_option maxHeartbeats 4000000 in
theorem sX0_fitsSmall {p : Nat} (hp : isR w p) (hQ : ∀ v : Bool, Q (.inl (some (.int (bI v)))) w) : WP (MX0_fitsSmall g) Q (0, [some (.ref p)], [], w, 0, 0) := by
  have hQt : Q (.inl (some (.int 1))) w := hQ true
  have hQf : Q (.inl (some (.int 0))) w := hQ false
  repeat' first
    | with_reducible assumption
    | with_reducible refine And.intro ?_ ?_
    | with_reducible exact vpi6 (by assumption) (by assumption)
    | with_reducible exact vpi8 (by assumption) (by assumption)
    | with_reducible refine go_R (by assumption) ?_
    | with_reducible exact hQ _
    | with_reducible exact hQt
    | with_reducible exact hQf
    | simp only [eX0_fitsSmall_0, eX0_fitsSmall_0N, eX0_fitsSmall_1, eX0_fitsSmall_4, eX0_fitsSmall_7, eX0_fitsSmall_8, eX0_fitsSmall_11, eX0_fitsSmall_11N, eX0_fitsSmall_12, eX0_fitsSmall_15, eX0_fitsSmall_18, eX0_fitsSmall_19, eX0_fitsSmall_22, eX0_fitsSmall_23, eX0_fitsSmall_26, eX0_fitsSmall_27, ite_le, n45, n54, true_or, or_true, false_or, or_false, false_and, and_false, kx_l, kx_r, go_s, gl_s, gi_s, gb_s2, gb_s3, gq_s, wt_nil, wt_int, wt_long, wt_ref, wt_null, nl_int, nl_long, nl_ref, nl_null, nl_none, rf_n, rf_s, rf_st, tl_s, tl_n, g0, gS, ex1, nb_b, nb_0, nb_1, nf_i, nf_l, nf_ra, nf_ro, nf_na, nf_no, nf_b0, nf_z0, t45_4, t45_5, true_and, and_true, List.set_cons_zero, List.set_cons_succ, List.length_cons, List.length_nil, rd_s, upw_s, ne_eq, not_false_eq_true, Nat.zero_add, Nat.add_zero]
    | split
    | with_reducible intro _
    | omega
set_option maxHeartbeats 4000000 in
theorem sX0_holdsAsSmall {p : Nat} {a0 : Int64} (hp : isR w p) (hQ : ∀ v : Bool, Q (.inl (some (.int (bI v)))) w) : WP (MX0_holdsAsSmall g) Q (0, [some (.ref p), some (.long a0), none], [], w, 0, 0) := by
  have hQt : Q (.inl (some (.int 1))) w := hQ true
  have hQf : Q (.inl (some (.int 0))) w := hQ false
  repeat' first
    | with_reducible assumption
    | with_reducible refine And.intro ?_ ?_
    | with_reducible exact vpi6 (by assumption) (by assumption)
    | with_reducible exact vpi8 (by assumption) (by assumption)
    | with_reducible refine sX0_fitsSmall (by first | assumption | exact hgc _ _ (by assumption) | exact hgl _ _ (by assumption) | exact isR.ext (by assumption) (by assumption)) ?_
    | with_reducible refine sX0_holds (by first | assumption | exact hgc _ _ (by assumption) | exact hgl _ _ (by assumption) | exact isR.ext (by assumption) (by assumption)) ?_
    | with_reducible refine go_R (by assumption) ?_
    | with_reducible exact hQ _
    | with_reducible exact hQt
    | with_reducible exact hQf
    | simp only [eX0_holdsAsSmall_0, eX0_holdsAsSmall_0N, eX0_holdsAsSmall_1, eX0_holdsAsSmall_4, eX0_holdsAsSmall_7, eX0_holdsAsSmall_7N, eX0_holdsAsSmall_8, eX0_holdsAsSmall_9, eX0_holdsAsSmall_12, eX0_holdsAsSmall_15, eX0_holdsAsSmall_16, eX0_holdsAsSmall_19, eX0_holdsAsSmall_20, ite_le, n45, n54, true_or, or_true, false_or, or_false, false_and, and_false, kx_l, kx_r, go_s, gl_s, gi_s, gb_s2, gb_s3, gq_s, wt_nil, wt_int, wt_long, wt_ref, wt_null, nl_int, nl_long, nl_ref, nl_null, nl_none, rf_n, rf_s, rf_st, tl_s, tl_n, g0, gS, ex1, nb_b, nb_0, nb_1, nf_i, nf_l, nf_ra, nf_ro, nf_na, nf_no, nf_b0, nf_z0, t45_4, t45_5, true_and, and_true, List.set_cons_zero, List.set_cons_succ, List.length_cons, List.length_nil, rd_s, upw_s, ne_eq, not_false_eq_true, Nat.zero_add, Nat.add_zero]
    | split
    | with_reducible intro _
    | omega
set_option maxHeartbeats 4000000 in
theorem sX0_holdsAs {p : Nat} {a0 : Int64} {a1 : Int32} (hp : isR w p) (hQ : ∀ v : Bool, Q (.inl (some (.int (bI v)))) w) : WP (MX0_holdsAs g) Q (0, [some (.ref p), some (.long a0), none, some (.int a1)], [], w, 0, 0) := by
  have hQt : Q (.inl (some (.int 1))) w := hQ true
  have hQf : Q (.inl (some (.int 0))) w := hQ false
  repeat' first
    | with_reducible assumption
    | with_reducible refine And.intro ?_ ?_
    | with_reducible exact vpi6 (by assumption) (by assumption)
    | with_reducible exact vpi8 (by assumption) (by assumption)
    | with_reducible refine sX0_holdsAsSmall (by first | assumption | exact hgc _ _ (by assumption) | exact hgl _ _ (by assumption) | exact isR.ext (by assumption) (by assumption)) ?_
    | with_reducible refine sX0_holds (by first | assumption | exact hgc _ _ (by assumption) | exact hgl _ _ (by assumption) | exact isR.ext (by assumption) (by assumption)) ?_
    | with_reducible refine go_R (by assumption) ?_
    | with_reducible exact hQ _
    | with_reducible exact hQt
    | with_reducible exact hQf
    | simp only [eX0_holdsAs_0, eX0_holdsAs_1, eX0_holdsAs_4, eX0_holdsAs_4N, eX0_holdsAs_5, eX0_holdsAs_6, eX0_holdsAs_9, eX0_holdsAs_12, eX0_holdsAs_12N, eX0_holdsAs_13, eX0_holdsAs_14, eX0_holdsAs_17, ite_le, n45, n54, true_or, or_true, false_or, or_false, false_and, and_false, kx_l, kx_r, go_s, gl_s, gi_s, gb_s2, gb_s3, gq_s, wt_nil, wt_int, wt_long, wt_ref, wt_null, nl_int, nl_long, nl_ref, nl_null, nl_none, rf_n, rf_s, rf_st, tl_s, tl_n, g0, gS, ex1, nb_b, nb_0, nb_1, nf_i, nf_l, nf_ra, nf_ro, nf_na, nf_no, nf_b0, nf_z0, t45_4, t45_5, true_and, and_true, List.set_cons_zero, List.set_cons_succ, List.length_cons, List.length_nil, rd_s, upw_s, ne_eq, not_false_eq_true, Nat.zero_add, Nat.add_zero]
    | split
    | with_reducible intro _
    | omega
set_option maxHeartbeats 4000000 in
theorem sX0_isSettled {p : Nat} (hp : isR w p) (hQ : ∀ v : Bool, Q (.inl (some (.int (bI v)))) w) : WP (MX0_isSettled g) Q (0, [some (.ref p)], [], w, 0, 0) := by
  have hQt : Q (.inl (some (.int 1))) w := hQ true
  have hQf : Q (.inl (some (.int 0))) w := hQ false
  repeat' first
    | with_reducible assumption
    | with_reducible refine And.intro ?_ ?_
    | with_reducible exact vpi6 (by assumption) (by assumption)
    | with_reducible exact vpi8 (by assumption) (by assumption)
    | with_reducible refine go_R (by assumption) ?_
    | with_reducible exact hQ _
    | with_reducible exact hQt
    | with_reducible exact hQf
    | simp only [eX0_isSettled_0, eX0_isSettled_0N, eX0_isSettled_1, eX0_isSettled_4, eX0_isSettled_4N, eX0_isSettled_5, eX0_isSettled_8, eX0_isSettled_9, eX0_isSettled_12, eX0_isSettled_12N, eX0_isSettled_13, eX0_isSettled_16, eX0_isSettled_16N, eX0_isSettled_17, eX0_isSettled_20, eX0_isSettled_21, eX0_isSettled_24, eX0_isSettled_25, eX0_isSettled_28, eX0_isSettled_29, ite_le, n45, n54, true_or, or_true, false_or, or_false, false_and, and_false, kx_l, kx_r, go_s, gl_s, gi_s, gb_s2, gb_s3, gq_s, wt_nil, wt_int, wt_long, wt_ref, wt_null, nl_int, nl_long, nl_ref, nl_null, nl_none, rf_n, rf_s, rf_st, tl_s, tl_n, g0, gS, ex1, nb_b, nb_0, nb_1, nf_i, nf_l, nf_ra, nf_ro, nf_na, nf_no, nf_b0, nf_z0, t45_4, t45_5, true_and, and_true, List.set_cons_zero, List.set_cons_succ, List.length_cons, List.length_nil, rd_s, upw_s, ne_eq, not_false_eq_true, Nat.zero_add, Nat.add_zero]
    | split
    | with_reducible intro _
    | omega
set_option maxHeartbeats 4000000 in
theorem sX0_matchesR {p : Nat} {a0 : Nat} (hp : isR w p) (h0 : isR w a0) (hQ : ∀ v : Bool, Q (.inl (some (.int (bI v)))) w) : WP (MX0_matches g) Q (0, [some (.ref p), some (.ref a0)], [], w, 0, 0) := by
  have hQt : Q (.inl (some (.int 1))) w := hQ true
  have hQf : Q (.inl (some (.int 0))) w := hQ false
  repeat' first
    | with_reducible assumption
    | with_reducible refine And.intro ?_ ?_
    | with_reducible exact vpi6 (by assumption) (by assumption)
    | with_reducible exact vpi8 (by assumption) (by assumption)
    | with_reducible refine go_R (by assumption) ?_
    | with_reducible exact hQ _
    | with_reducible exact hQt
    | with_reducible exact hQf
    | simp only [eX0_matches_0, eX0_matches_0N, eX0_matches_1R, eX0_matches_1N, eX0_matches_4, eX0_matches_4N, eX0_matches_5, eX0_matches_8, eX0_matches_8N, eX0_matches_9, eX0_matches_12, eX0_matches_13, eX0_matches_16, eX0_matches_16N, eX0_matches_17, eX0_matches_20, eX0_matches_20N, eX0_matches_21, eX0_matches_24, eX0_matches_25, eX0_matches_28, eX0_matches_28N, eX0_matches_29, eX0_matches_32, eX0_matches_32N, eX0_matches_33, eX0_matches_36, eX0_matches_37, eX0_matches_40, eX0_matches_40N, eX0_matches_41, eX0_matches_44, eX0_matches_44N, eX0_matches_45, eX0_matches_48, eX0_matches_49, eX0_matches_52, eX0_matches_53, eX0_matches_56, eX0_matches_57, ite_le, n45, n54, true_or, or_true, false_or, or_false, false_and, and_false, kx_l, kx_r, go_s, gl_s, gi_s, gb_s2, gb_s3, gq_s, wt_nil, wt_int, wt_long, wt_ref, wt_null, nl_int, nl_long, nl_ref, nl_null, nl_none, rf_n, rf_s, rf_st, tl_s, tl_n, g0, gS, ex1, nb_b, nb_0, nb_1, nf_i, nf_l, nf_ra, nf_ro, nf_na, nf_no, nf_b0, nf_z0, t45_4, t45_5, true_and, and_true, List.set_cons_zero, List.set_cons_succ, List.length_cons, List.length_nil, rd_s, upw_s, ne_eq, not_false_eq_true, Nat.zero_add, Nat.add_zero]
    | split
    | with_reducible intro _
    | omega
set_option maxHeartbeats 4000000 in
theorem sX0_matchesN {p : Nat} (hp : isR w p) (hQ : ∀ v : Bool, Q (.inl (some (.int (bI v)))) w) : WP (MX0_matches g) Q (0, [some (.ref p), some .null], [], w, 0, 0) := by
  have hQt : Q (.inl (some (.int 1))) w := hQ true
  have hQf : Q (.inl (some (.int 0))) w := hQ false
  repeat' first
    | with_reducible assumption
    | with_reducible refine And.intro ?_ ?_
    | with_reducible exact vpi6 (by assumption) (by assumption)
    | with_reducible exact vpi8 (by assumption) (by assumption)
    | with_reducible refine go_R (by assumption) ?_
    | with_reducible exact hQ _
    | with_reducible exact hQt
    | with_reducible exact hQf
    | simp only [eX0_matches_0, eX0_matches_0N, eX0_matches_1R, eX0_matches_1N, eX0_matches_4, eX0_matches_4N, eX0_matches_5, eX0_matches_8, eX0_matches_8N, eX0_matches_9, eX0_matches_12, eX0_matches_13, eX0_matches_16, eX0_matches_16N, eX0_matches_17, eX0_matches_20, eX0_matches_20N, eX0_matches_21, eX0_matches_24, eX0_matches_25, eX0_matches_28, eX0_matches_28N, eX0_matches_29, eX0_matches_32, eX0_matches_32N, eX0_matches_33, eX0_matches_36, eX0_matches_37, eX0_matches_40, eX0_matches_40N, eX0_matches_41, eX0_matches_44, eX0_matches_44N, eX0_matches_45, eX0_matches_48, eX0_matches_49, eX0_matches_52, eX0_matches_53, eX0_matches_56, eX0_matches_57, ite_le, n45, n54, true_or, or_true, false_or, or_false, false_and, and_false, kx_l, kx_r, go_s, gl_s, gi_s, gb_s2, gb_s3, gq_s, wt_nil, wt_int, wt_long, wt_ref, wt_null, nl_int, nl_long, nl_ref, nl_null, nl_none, rf_n, rf_s, rf_st, tl_s, tl_n, g0, gS, ex1, nb_b, nb_0, nb_1, nf_i, nf_l, nf_ra, nf_ro, nf_na, nf_no, nf_b0, nf_z0, t45_4, t45_5, true_and, and_true, List.set_cons_zero, List.set_cons_succ, List.length_cons, List.length_nil, rd_s, upw_s, ne_eq, not_false_eq_true, Nat.zero_add, Nat.add_zero]
    | split
    | with_reducible intro _
    | omega
set_option maxHeartbeats 4000000 in
theorem sX0_hash {p : Nat} (hp : isR w p) (hQ : ∀ v : Int64, Q (.inl (some (.long v))) w) : WP (MX0_hash g) Q (0, [some (.ref p), none, none], [], w, 0, 0) := by
  repeat' first
    | with_reducible assumption
    | with_reducible refine And.intro ?_ ?_
    | with_reducible exact vpi6 (by assumption) (by assumption)
    | with_reducible exact vpi8 (by assumption) (by assumption)
    | with_reducible refine go_R (by assumption) ?_
    | with_reducible exact hQ _
    | simp only [eX0_hash_0, eX0_hash_0N, eX0_hash_1, eX0_hash_4, eX0_hash_5, eX0_hash_6, eX0_hash_9, eX0_hash_10, eX0_hash_10N, eX0_hash_11, eX0_hash_14, eX0_hash_15, eX0_hash_16, eX0_hash_17, eX0_hash_20, eX0_hash_21, eX0_hash_21N, eX0_hash_22, eX0_hash_25, eX0_hash_26, eX0_hash_27, eX0_hash_28, eX0_hash_31, eX0_hash_32, eX0_hash_32N, eX0_hash_33, eX0_hash_36, eX0_hash_37, ite_le, n45, n54, true_or, or_true, false_or, or_false, false_and, and_false, kx_l, kx_r, go_s, gl_s, gi_s, gb_s2, gb_s3, gq_s, wt_nil, wt_int, wt_long, wt_ref, wt_null, nl_int, nl_long, nl_ref, nl_null, nl_none, rf_n, rf_s, rf_st, tl_s, tl_n, g0, gS, ex1, nb_b, nb_0, nb_1, nf_i, nf_l, nf_ra, nf_ro, nf_na, nf_no, nf_b0, nf_z0, t45_4, t45_5, true_and, and_true, List.set_cons_zero, List.set_cons_succ, List.length_cons, List.length_nil, rd_s, upw_s, ne_eq, not_false_eq_true, Nat.zero_add, Nat.add_zero]
    | split
    | with_reducible intro _
    | omega
set_option maxHeartbeats 4000000 in
theorem sX0_ofFour {a0 a1 a2 a3 : Int64} (hN : Q (.inl (some .null)) w) (hQ : ∀ (q : Nat) (w' : Hw), ext g w w' → isR w' q → Q (.inl (some (.ref q))) w') : WP (MX0_ofFour g) Q (0, [some (.long a0), none, some (.long a1), none, some (.long a2), none, some (.long a3), none], [], w, 0, 0) := by
  repeat' first
    | with_reducible assumption
    | with_reducible refine And.intro ?_ ?_
    | with_reducible exact vpi6 (by assumption) (by assumption)
    | with_reducible exact vpi8 (by assumption) (by assumption)
    | with_reducible refine sX0_isInOrder ?_
    | with_reducible exact hQ _ _ (by assumption) (by assumption)
    | with_reducible exact hQ _ _ (by repeat' first | assumption | exact ext.rf | refine ext_up2 ?_ ?_) isR_up
    | simp only [eX0_ofFour_0, eX0_ofFour_1, eX0_ofFour_2, eX0_ofFour_4, eX0_ofFour_6, eX0_ofFour_9, eX0_ofFour_12, eX0_ofFour_15, eX0_ofFour_15R, eX0_ofFour_16, eX0_ofFour_17, eX0_ofFour_18, eX0_ofFour_20, eX0_ofFour_22, eX0_ofFour_25, eX0_ofFour_28, eX0_ofFour_29, eX0_ofFour_29N, eX0_init_0, eX0_init_0N, eX0_init_1, eX0_init_4, eX0_init_4N, eX0_init_5, eX0_init_6, eX0_init_9, eX0_init_9N, eX0_init_10, eX0_init_11, eX0_init_14, eX0_init_14N, eX0_init_15, eX0_init_17, eX0_init_20, eX0_init_20N, eX0_init_21, eX0_init_23, eX0_init_26, ite_le, n45, n54, true_or, or_true, false_or, or_false, false_and, and_false, kx_l, kx_r, go_s, gl_s, gi_s, gb_s2, gb_s3, gq_s, wt_nil, wt_int, wt_long, wt_ref, wt_null, nl_int, nl_long, nl_ref, nl_null, nl_none, rf_n, rf_s, rf_st, tl_s, tl_n, g0, gS, ex1, nb_b, nb_0, nb_1, nf_i, nf_l, nf_ra, nf_ro, nf_na, nf_no, nf_b0, nf_z0, t45_4, t45_5, true_and, and_true, List.set_cons_zero, List.set_cons_succ, List.length_cons, List.length_nil, rd_s, upw_s, ne_eq, not_false_eq_true, Nat.zero_add, Nat.add_zero]
    | split
    | with_reducible intro _
    | omega
set_option maxHeartbeats 4000000 in
theorem sX0_ofTwo {a0 : Int64} {a1 : Int64} (hN : Q (.inl (some .null)) w) (hQ : ∀ (q : Nat) (w' : Hw), ext g w w' → isR w' q → Q (.inl (some (.ref q))) w') : WP (MX0_ofTwo g) Q (0, [some (.long a0), none, some (.long a1), none], [], w, 0, 0) := by
  repeat' first
    | with_reducible assumption
    | with_reducible refine And.intro ?_ ?_
    | with_reducible exact vpi6 (by assumption) (by assumption)
    | with_reducible exact vpi8 (by assumption) (by assumption)
    | with_reducible refine sX0_ofFour ?_ ?_
    | with_reducible refine go_R (by assumption) ?_
    | with_reducible exact hQ _ _ (by assumption) (by assumption)
    | with_reducible exact hQ _ _ (by repeat' first | assumption | exact ext.rf | refine ext_up2 ?_ ?_) isR_up
    | simp only [eX0_ofTwo_0, eX0_ofTwo_1, eX0_ofTwo_2, eX0_ofTwo_3, eX0_ofTwo_4, eX0_ofTwo_7, eX0_ofTwo_7N, ite_le, n45, n54, true_or, or_true, false_or, or_false, false_and, and_false, kx_l, kx_r, go_s, gl_s, gi_s, gb_s2, gb_s3, gq_s, wt_nil, wt_int, wt_long, wt_ref, wt_null, nl_int, nl_long, nl_ref, nl_null, nl_none, rf_n, rf_s, rf_st, tl_s, tl_n, g0, gS, ex1, nb_b, nb_0, nb_1, nf_i, nf_l, nf_ra, nf_ro, nf_na, nf_no, nf_b0, nf_z0, t45_4, t45_5, true_and, and_true, List.set_cons_zero, List.set_cons_succ, List.length_cons, List.length_nil, rd_s, upw_s, ne_eq, not_false_eq_true, Nat.zero_add, Nat.add_zero]
    | split
    | with_reducible intro _
    | omega
set_option maxHeartbeats 4000000 in
theorem sX0_endAt {p : Nat} {a0 : Int32} (hp : isR w p) (hQ : ∀ v : Int64, Q (.inl (some (.long v))) w) : WP (MX0_endAt g) Q (0, [some (.ref p), some (.int a0)], [], w, 0, 0) := by
  rcases sw02 a0 with rfl | rfl | rfl | hsw
  · repeat' first
      | with_reducible assumption
      | with_reducible refine And.intro ?_ ?_
      | with_reducible exact vpi6 (by assumption) (by assumption)
      | with_reducible exact vpi8 (by assumption) (by assumption)
      | with_reducible refine go_R (by assumption) ?_
      | with_reducible exact hQ _
      | simp only [eX0_endAt_0, eX0_endAt_1_0, eX0_endAt_1_1, eX0_endAt_1_2, eX0_endAt_1_d3, eX0_endAt_1_d4, eX0_endAt_28, eX0_endAt_28N, eX0_endAt_29, eX0_endAt_32, eX0_endAt_33, eX0_endAt_33N, eX0_endAt_34, eX0_endAt_37, eX0_endAt_38, eX0_endAt_38N, eX0_endAt_39, eX0_endAt_42, eX0_endAt_43, eX0_endAt_43N, eX0_endAt_44, eX0_endAt_47, ite_le, n45, n54, true_or, or_true, false_or, or_false, false_and, and_false, kx_l, kx_r, go_s, gl_s, gi_s, gb_s2, gb_s3, gq_s, wt_nil, wt_int, wt_long, wt_ref, wt_null, nl_int, nl_long, nl_ref, nl_null, nl_none, rf_n, rf_s, rf_st, tl_s, tl_n, g0, gS, ex1, nb_b, nb_0, nb_1, nf_i, nf_l, nf_ra, nf_ro, nf_na, nf_no, nf_b0, nf_z0, t45_4, t45_5, true_and, and_true, List.set_cons_zero, List.set_cons_succ, List.length_cons, List.length_nil, rd_s, upw_s, ne_eq, not_false_eq_true, Nat.zero_add, Nat.add_zero]
      | split
      | with_reducible intro _
      | omega
  · repeat' first
      | with_reducible assumption
      | with_reducible refine And.intro ?_ ?_
      | with_reducible exact vpi6 (by assumption) (by assumption)
      | with_reducible exact vpi8 (by assumption) (by assumption)
      | with_reducible refine go_R (by assumption) ?_
      | with_reducible exact hQ _
      | simp only [eX0_endAt_0, eX0_endAt_1_0, eX0_endAt_1_1, eX0_endAt_1_2, eX0_endAt_1_d3, eX0_endAt_1_d4, eX0_endAt_28, eX0_endAt_28N, eX0_endAt_29, eX0_endAt_32, eX0_endAt_33, eX0_endAt_33N, eX0_endAt_34, eX0_endAt_37, eX0_endAt_38, eX0_endAt_38N, eX0_endAt_39, eX0_endAt_42, eX0_endAt_43, eX0_endAt_43N, eX0_endAt_44, eX0_endAt_47, ite_le, n45, n54, true_or, or_true, false_or, or_false, false_and, and_false, kx_l, kx_r, go_s, gl_s, gi_s, gb_s2, gb_s3, gq_s, wt_nil, wt_int, wt_long, wt_ref, wt_null, nl_int, nl_long, nl_ref, nl_null, nl_none, rf_n, rf_s, rf_st, tl_s, tl_n, g0, gS, ex1, nb_b, nb_0, nb_1, nf_i, nf_l, nf_ra, nf_ro, nf_na, nf_no, nf_b0, nf_z0, t45_4, t45_5, true_and, and_true, List.set_cons_zero, List.set_cons_succ, List.length_cons, List.length_nil, rd_s, upw_s, ne_eq, not_false_eq_true, Nat.zero_add, Nat.add_zero]
      | split
      | with_reducible intro _
      | omega
  · repeat' first
      | with_reducible assumption
      | with_reducible refine And.intro ?_ ?_
      | with_reducible exact vpi6 (by assumption) (by assumption)
      | with_reducible exact vpi8 (by assumption) (by assumption)
      | with_reducible refine go_R (by assumption) ?_
      | with_reducible exact hQ _
      | simp only [eX0_endAt_0, eX0_endAt_1_0, eX0_endAt_1_1, eX0_endAt_1_2, eX0_endAt_1_d3, eX0_endAt_1_d4, eX0_endAt_28, eX0_endAt_28N, eX0_endAt_29, eX0_endAt_32, eX0_endAt_33, eX0_endAt_33N, eX0_endAt_34, eX0_endAt_37, eX0_endAt_38, eX0_endAt_38N, eX0_endAt_39, eX0_endAt_42, eX0_endAt_43, eX0_endAt_43N, eX0_endAt_44, eX0_endAt_47, ite_le, n45, n54, true_or, or_true, false_or, or_false, false_and, and_false, kx_l, kx_r, go_s, gl_s, gi_s, gb_s2, gb_s3, gq_s, wt_nil, wt_int, wt_long, wt_ref, wt_null, nl_int, nl_long, nl_ref, nl_null, nl_none, rf_n, rf_s, rf_st, tl_s, tl_n, g0, gS, ex1, nb_b, nb_0, nb_1, nf_i, nf_l, nf_ra, nf_ro, nf_na, nf_no, nf_b0, nf_z0, t45_4, t45_5, true_and, and_true, List.set_cons_zero, List.set_cons_succ, List.length_cons, List.length_nil, rd_s, upw_s, ne_eq, not_false_eq_true, Nat.zero_add, Nat.add_zero]
      | split
      | with_reducible intro _
      | omega
  · repeat' first
      | with_reducible assumption
      | with_reducible refine And.intro ?_ ?_
      | with_reducible exact vpi6 (by assumption) (by assumption)
      | with_reducible exact vpi8 (by assumption) (by assumption)
      | with_reducible refine go_R (by assumption) ?_
      | with_reducible exact hQ _
      | simp only [eX0_endAt_0, eX0_endAt_1_0, eX0_endAt_1_1, eX0_endAt_1_2, eX0_endAt_1_d3, eX0_endAt_1_d4, eX0_endAt_28, eX0_endAt_28N, eX0_endAt_29, eX0_endAt_32, eX0_endAt_33, eX0_endAt_33N, eX0_endAt_34, eX0_endAt_37, eX0_endAt_38, eX0_endAt_38N, eX0_endAt_39, eX0_endAt_42, eX0_endAt_43, eX0_endAt_43N, eX0_endAt_44, eX0_endAt_47, eX0_endAt_1_d hsw, ite_le, n45, n54, true_or, or_true, false_or, or_false, false_and, and_false, kx_l, kx_r, go_s, gl_s, gi_s, gb_s2, gb_s3, gq_s, wt_nil, wt_int, wt_long, wt_ref, wt_null, nl_int, nl_long, nl_ref, nl_null, nl_none, rf_n, rf_s, rf_st, tl_s, tl_n, g0, gS, ex1, nb_b, nb_0, nb_1, nf_i, nf_l, nf_ra, nf_ro, nf_na, nf_no, nf_b0, nf_z0, t45_4, t45_5, true_and, and_true, List.set_cons_zero, List.set_cons_succ, List.length_cons, List.length_nil, rd_s, upw_s, ne_eq, not_false_eq_true, Nat.zero_add, Nat.add_zero]
      | split
      | with_reducible intro _
      | omega
end
end
/-! 67.22.class0.lean.txt -/
section
section
variable {g : RO} {Q : Ot → Hw → Prop} {w0 w : Hw} {x nA cA lA : Nat} {kn : Int32}
theorem sX1_needNumber {a0 : Int32} (hXo : Q (.inr "java/lang/IndexOutOfBoundsException") w) (hQ : ¬ a0 < 0 → a0 < 8 → Q (.inl none) w) : WP (MX1_needNumber g) Q (0, [some (.int a0)], [], w, 0, 0) := by
  repeat' first
    | with_reducible assumption
    | with_reducible refine And.intro ?_ ?_
    | with_reducible exact vpi6 (by assumption) (by assumption)
    | with_reducible exact vpi8 (by assumption) (by assumption)
    | with_reducible exact hQ (by assumption) (by assumption)
    | simp only [eX1_needNumber_0, eX1_needNumber_1, eX1_needNumber_4, eX1_needNumber_5, eX1_needNumber_7, eX1_needNumber_10, eX1_needNumber_20, ite_le, n45, n54, true_or, or_true, false_or, or_false, false_and, and_false, kx_l, kx_r, go_s, gl_s, gi_s, gb_s2, gb_s3, gq_s, wt_nil, wt_int, wt_long, wt_ref, wt_null, nl_int, nl_long, nl_ref, nl_null, nl_none, rf_n, rf_s, rf_st, tl_s, tl_n, g0, gS, ex1, nb_b, nb_0, nb_1, nf_i, nf_l, nf_ra, nf_ro, nf_na, nf_no, nf_b0, nf_z0, t45_4, t45_5, true_and, and_true, List.set_cons_zero, List.set_cons_succ, List.length_cons, List.length_nil, rd_s, upw_s, ne_eq, not_false_eq_true, Nat.zero_add, Nat.add_zero]
    | split
    | with_reducible intro _
    | omega
theorem sX1_needCard {a0 : Int32} (hXo : Q (.inr "java/lang/IndexOutOfBoundsException") w) (hQ : ¬ a0 < 0 → a0 < 6 → Q (.inl none) w) : WP (MX1_needCard g) Q (0, [some (.int a0)], [], w, 0, 0) := by
  repeat' first
    | with_reducible assumption
    | with_reducible refine And.intro ?_ ?_
    | with_reducible exact vpi6 (by assumption) (by assumption)
    | with_reducible exact vpi8 (by assumption) (by assumption)
    | with_reducible exact hQ (by assumption) (by assumption)
    | simp only [eX1_needCard_0, eX1_needCard_1, eX1_needCard_4, eX1_needCard_5, eX1_needCard_7, eX1_needCard_10, eX1_needCard_20, ite_le, n45, n54, true_or, or_true, false_or, or_false, false_and, and_false, kx_l, kx_r, go_s, gl_s, gi_s, gb_s2, gb_s3, gq_s, wt_nil, wt_int, wt_long, wt_ref, wt_null, nl_int, nl_long, nl_ref, nl_null, nl_none, rf_n, rf_s, rf_st, tl_s, tl_n, g0, gS, ex1, nb_b, nb_0, nb_1, nf_i, nf_l, nf_ra, nf_ro, nf_na, nf_no, nf_b0, nf_z0, t45_4, t45_5, true_and, and_true, List.set_cons_zero, List.set_cons_succ, List.length_cons, List.length_nil, rd_s, upw_s, ne_eq, not_false_eq_true, Nat.zero_add, Nat.add_zero]
    | split
    | with_reducible intro _
    | omega
theorem sX1_needChoice {a0 a1 : Int32} (hXa : Q (.inr "java/lang/IllegalArgumentException") w) (hQ : ¬ a0 < 0 → ¬ a1 < a0 → Q (.inl none) w) : WP (MX1_needChoice g) Q (0, [some (.int a0), some (.int a1)], [], w, 0, 0) := by
  repeat' first
    | with_reducible assumption
    | with_reducible refine And.intro ?_ ?_
    | with_reducible exact vpi6 (by assumption) (by assumption)
    | with_reducible exact vpi8 (by assumption) (by assumption)
    | with_reducible exact hQ (by assumption) (by assumption)
    | simp only [eX1_needChoice_0, eX1_needChoice_1, eX1_needChoice_4, eX1_needChoice_5, eX1_needChoice_6, eX1_needChoice_9, eX1_needChoice_19, ite_le, n45, n54, true_or, or_true, false_or, or_false, false_and, and_false, kx_l, kx_r, go_s, gl_s, gi_s, gb_s2, gb_s3, gq_s, wt_nil, wt_int, wt_long, wt_ref, wt_null, nl_int, nl_long, nl_ref, nl_null, nl_none, rf_n, rf_s, rf_st, tl_s, tl_n, g0, gS, ex1, nb_b, nb_0, nb_1, nf_i, nf_l, nf_ra, nf_ro, nf_na, nf_no, nf_b0, nf_z0, t45_4, t45_5, true_and, and_true, List.set_cons_zero, List.set_cons_succ, List.length_cons, List.length_nil, rd_s, upw_s, ne_eq, not_false_eq_true, Nat.zero_add, Nat.add_zero]
    | split
    | with_reducible intro _
    | omega
set_option maxHeartbeats 4000000 in
theorem sX1_highOf {a0 : Int64} (hQ : ∀ v : Int32, Q (.inl (some (.int v))) w) : WP (MX1_highOf g) Q (0, [some (.long a0), none], [], w, 0, 0) := by
  repeat' first
    | with_reducible assumption
    | with_reducible refine And.intro ?_ ?_
    | with_reducible exact vpi6 (by assumption) (by assumption)
    | with_reducible exact vpi8 (by assumption) (by assumption)
    | with_reducible refine go_R (by assumption) ?_
    | with_reducible exact hQ _
    | simp only [eX1_highOf_0, eX1_highOf_1, eX1_highOf_3, eX1_highOf_4, eX1_highOf_5, ite_le, n45, n54, true_or, or_true, false_or, or_false, false_and, and_false, kx_l, kx_r, go_s, gl_s, gi_s, gb_s2, gb_s3, gq_s, wt_nil, wt_int, wt_long, wt_ref, wt_null, nl_int, nl_long, nl_ref, nl_null, nl_none, rf_n, rf_s, rf_st, tl_s, tl_n, g0, gS, ex1, nb_b, nb_0, nb_1, nf_i, nf_l, nf_ra, nf_ro, nf_na, nf_no, nf_b0, nf_z0, t45_4, t45_5, true_and, and_true, List.set_cons_zero, List.set_cons_succ, List.length_cons, List.length_nil, rd_s, upw_s, ne_eq, not_false_eq_true, Nat.zero_add, Nat.add_zero]
    | split
    | with_reducible intro _
    | omega
set_option maxHeartbeats 4000000 in
theorem sX1_lowOf {a0 : Int64} (hQ : ∀ v : Int32, Q (.inl (some (.int v))) w) : WP (MX1_lowOf g) Q (0, [some (.long a0), none], [], w, 0, 0) := by
  repeat' first
    | with_reducible assumption
    | with_reducible refine And.intro ?_ ?_
    | with_reducible exact vpi6 (by assumption) (by assumption)
    | with_reducible exact vpi8 (by assumption) (by assumption)
    | with_reducible refine go_R (by assumption) ?_
    | with_reducible exact hQ _
    | simp only [eX1_lowOf_0, eX1_lowOf_1, eX1_lowOf_2, ite_le, n45, n54, true_or, or_true, false_or, or_false, false_and, and_false, kx_l, kx_r, go_s, gl_s, gi_s, gb_s2, gb_s3, gq_s, wt_nil, wt_int, wt_long, wt_ref, wt_null, nl_int, nl_long, nl_ref, nl_null, nl_none, rf_n, rf_s, rf_st, tl_s, tl_n, g0, gS, ex1, nb_b, nb_0, nb_1, nf_i, nf_l, nf_ra, nf_ro, nf_na, nf_no, nf_b0, nf_z0, t45_4, t45_5, true_and, and_true, List.set_cons_zero, List.set_cons_succ, List.length_cons, List.length_nil, rd_s, upw_s, ne_eq, not_false_eq_true, Nat.zero_add, Nat.add_zero]
    | split
    | with_reducible intro _
    | omega
set_option maxHeartbeats 4000000 in
theorem sX1_asNumber {a0 : Int32} (hQ : ∀ v : Int32, Q (.inl (some (.int v))) w) : WP (MX1_asNumber g) Q (0, [some (.int a0)], [], w, 0, 0) := by
  repeat' first
    | with_reducible assumption
    | with_reducible refine And.intro ?_ ?_
    | with_reducible exact vpi6 (by assumption) (by assumption)
    | with_reducible exact vpi8 (by assumption) (by assumption)
    | with_reducible refine go_R (by assumption) ?_
    | with_reducible exact hQ _
    | simp only [eX1_asNumber_0, eX1_asNumber_1, eX1_asNumber_4, eX1_asNumber_5, eX1_asNumber_8, eX1_asNumber_9, ite_le, n45, n54, true_or, or_true, false_or, or_false, false_and, and_false, kx_l, kx_r, go_s, gl_s, gi_s, gb_s2, gb_s3, gq_s, wt_nil, wt_int, wt_long, wt_ref, wt_null, nl_int, nl_long, nl_ref, nl_null, nl_none, rf_n, rf_s, rf_st, tl_s, tl_n, g0, gS, ex1, nb_b, nb_0, nb_1, nf_i, nf_l, nf_ra, nf_ro, nf_na, nf_no, nf_b0, nf_z0, t45_4, t45_5, true_and, and_true, List.set_cons_zero, List.set_cons_succ, List.length_cons, List.length_nil, rd_s, upw_s, ne_eq, not_false_eq_true, Nat.zero_add, Nat.add_zero]
    | split
    | with_reducible intro _
    | omega
set_option maxHeartbeats 4000000 in
theorem sX1_copyOf {a0 : Nat} (h0 : isR w a0) (hN : Q (.inl (some .null)) w) (hQ : ∀ (q : Nat) (w' : Hw), ext g w w' → isR w' q → Q (.inl (some (.ref q))) w') : WP (MX1_copyOf g) Q (0, [some (.ref a0)], [], w, 0, 0) := by
  repeat' first
    | with_reducible assumption
    | with_reducible refine And.intro ?_ ?_
    | with_reducible exact vpi6 (by assumption) (by assumption)
    | with_reducible exact vpi8 (by assumption) (by assumption)
    | with_reducible refine sX0_ofFour ?_ ?_
    | with_reducible refine go_R (by assumption) ?_
    | with_reducible exact hQ _ _ (by assumption) (by assumption)
    | with_reducible exact hQ _ _ (by repeat' first | assumption | exact ext.rf | refine ext_up2 ?_ ?_) isR_up
    | simp only [eX1_copyOf_0, eX1_copyOf_0N, eX1_copyOf_1, eX1_copyOf_4, eX1_copyOf_4N, eX1_copyOf_5, eX1_copyOf_8, eX1_copyOf_8N, eX1_copyOf_9, eX1_copyOf_12, eX1_copyOf_12N, eX1_copyOf_13, eX1_copyOf_16, eX1_copyOf_19, eX1_copyOf_19N, ite_le, n45, n54, true_or, or_true, false_or, or_false, false_and, and_false, kx_l, kx_r, go_s, gl_s, gi_s, gb_s2, gb_s3, gq_s, wt_nil, wt_int, wt_long, wt_ref, wt_null, nl_int, nl_long, nl_ref, nl_null, nl_none, rf_n, rf_s, rf_st, tl_s, tl_n, g0, gS, ex1, nb_b, nb_0, nb_1, nf_i, nf_l, nf_ra, nf_ro, nf_na, nf_no, nf_b0, nf_z0, t45_4, t45_5, true_and, and_true, List.set_cons_zero, List.set_cons_succ, List.length_cons, List.length_nil, rd_s, upw_s, ne_eq, not_false_eq_true, Nat.zero_add, Nat.add_zero]
    | split
    | with_reducible intro _
    | omega
set_option maxHeartbeats 4000000 in
theorem sX1_outerOf {a0 : Nat} (h0 : isR w a0) (hN : Q (.inl (some .null)) w) (hQ : ∀ (q : Nat) (w' : Hw), ext g w w' → isR w' q → Q (.inl (some (.ref q))) w') : WP (MX1_outerOf g) Q (0, [some (.ref a0)], [], w, 0, 0) := by
  repeat' first
    | with_reducible assumption
    | with_reducible refine And.intro ?_ ?_
    | with_reducible exact vpi6 (by assumption) (by assumption)
    | with_reducible exact vpi8 (by assumption) (by assumption)
    | with_reducible refine sX0_ofTwo ?_ ?_
    | with_reducible refine go_R (by assumption) ?_
    | with_reducible exact hQ _ _ (by assumption) (by assumption)
    | with_reducible exact hQ _ _ (by repeat' first | assumption | exact ext.rf | refine ext_up2 ?_ ?_) isR_up
    | simp only [eX1_outerOf_0, eX1_outerOf_0N, eX1_outerOf_1, eX1_outerOf_4, eX1_outerOf_4N, eX1_outerOf_5, eX1_outerOf_8, eX1_outerOf_11, eX1_outerOf_11N, ite_le, n45, n54, true_or, or_true, false_or, or_false, false_and, and_false, kx_l, kx_r, go_s, gl_s, gi_s, gb_s2, gb_s3, gq_s, wt_nil, wt_int, wt_long, wt_ref, wt_null, nl_int, nl_long, nl_ref, nl_null, nl_none, rf_n, rf_s, rf_st, tl_s, tl_n, g0, gS, ex1, nb_b, nb_0, nb_1, nf_i, nf_l, nf_ra, nf_ro, nf_na, nf_no, nf_b0, nf_z0, t45_4, t45_5, true_and, and_true, List.set_cons_zero, List.set_cons_succ, List.length_cons, List.length_nil, rd_s, upw_s, ne_eq, not_false_eq_true, Nat.zero_add, Nat.add_zero]
    | split
    | with_reducible intro _
    | omega
set_option maxHeartbeats 4000000 in
theorem sX1_validityIn {a0 : Nat} {a1 : Int64} (h0 : isR w a0) (hQ : ∀ v : Int32, Q (.inl (some (.int v))) w) : WP (MX1_validityIn g) Q (0, [some (.ref a0), some (.long a1), none], [], w, 0, 0) := by
  repeat' first
    | with_reducible assumption
    | with_reducible refine And.intro ?_ ?_
    | with_reducible exact vpi6 (by assumption) (by assumption)
    | with_reducible exact vpi8 (by assumption) (by assumption)
    | with_reducible refine sX0_holds (by first | assumption | exact hgc _ _ (by assumption) | exact hgl _ _ (by assumption) | exact isR.ext (by assumption) (by assumption)) ?_
    | with_reducible refine sX1_asNumber ?_
    | with_reducible refine sX0_holdsAsSmall (by first | assumption | exact hgc _ _ (by assumption) | exact hgl _ _ (by assumption) | exact isR.ext (by assumption) (by assumption)) ?_
    | with_reducible refine go_R (by assumption) ?_
    | with_reducible exact hQ _
    | simp only [eX1_validityIn_0, eX1_validityIn_0N, eX1_validityIn_1, eX1_validityIn_2, eX1_validityIn_5, eX1_validityIn_8, eX1_validityIn_8N, eX1_validityIn_9, eX1_validityIn_10, eX1_validityIn_13, eX1_validityIn_16, eX1_validityIn_17, ite_le, n45, n54, true_or, or_true, false_or, or_false, false_and, and_false, kx_l, kx_r, go_s, gl_s, gi_s, gb_s2, gb_s3, gq_s, wt_nil, wt_int, wt_long, wt_ref, wt_null, nl_int, nl_long, nl_ref, nl_null, nl_none, rf_n, rf_s, rf_st, tl_s, tl_n, g0, gS, ex1, nb_b, nb_0, nb_1, nf_i, nf_l, nf_ra, nf_ro, nf_na, nf_no, nf_b0, nf_z0, t45_4, t45_5, true_and, and_true, List.set_cons_zero, List.set_cons_succ, List.length_cons, List.length_nil, rd_s, upw_s, ne_eq, not_false_eq_true, Nat.zero_add, Nat.add_zero]
    | split
    | with_reducible intro _
    | omega
set_option maxHeartbeats 4000000 in
theorem sX1_neighboursIn {a0 : Nat} {a1 : Int64} {a2 : Int32} (h0 : isR w a0) (hQ : ∀ v : Int32, Q (.inl (some (.int v))) w) : WP (MX1_neighboursIn g) Q (0, [some (.ref a0), some (.long a1), none, some (.int a2)], [], w, 0, 0) := by
  repeat' first
    | with_reducible assumption
    | with_reducible refine And.intro ?_ ?_
    | with_reducible exact vpi6 (by assumption) (by assumption)
    | with_reducible exact vpi8 (by assumption) (by assumption)
    | with_reducible refine sX0_holdsAs (by first | assumption | exact hgc _ _ (by assumption) | exact hgl _ _ (by assumption) | exact isR.ext (by assumption) (by assumption)) ?_
    | with_reducible refine sX1_asNumber ?_
    | with_reducible refine go_R (by assumption) ?_
    | with_reducible exact hQ _
    | simp only [eX1_neighboursIn_0, eX1_neighboursIn_0N, eX1_neighboursIn_1, eX1_neighboursIn_2, eX1_neighboursIn_3, eX1_neighboursIn_4, eX1_neighboursIn_5, eX1_neighboursIn_8, eX1_neighboursIn_11, eX1_neighboursIn_12, eX1_neighboursIn_12N, eX1_neighboursIn_13, eX1_neighboursIn_14, eX1_neighboursIn_15, eX1_neighboursIn_18, eX1_neighboursIn_21, eX1_neighboursIn_22, eX1_neighboursIn_23, eX1_neighboursIn_24, eX1_neighboursIn_24N, eX1_neighboursIn_25, eX1_neighboursIn_26, eX1_neighboursIn_27, eX1_neighboursIn_28, eX1_neighboursIn_29, eX1_neighboursIn_32, eX1_neighboursIn_35, eX1_neighboursIn_36, eX1_neighboursIn_37, ite_le, n45, n54, true_or, or_true, false_or, or_false, false_and, and_false, kx_l, kx_r, go_s, gl_s, gi_s, gb_s2, gb_s3, gq_s, wt_nil, wt_int, wt_long, wt_ref, wt_null, nl_int, nl_long, nl_ref, nl_null, nl_none, rf_n, rf_s, rf_st, tl_s, tl_n, g0, gS, ex1, nb_b, nb_0, nb_1, nf_i, nf_l, nf_ra, nf_ro, nf_na, nf_no, nf_b0, nf_z0, t45_4, t45_5, true_and, and_true, List.set_cons_zero, List.set_cons_succ, List.length_cons, List.length_nil, rd_s, upw_s, ne_eq, not_false_eq_true, Nat.zero_add, Nat.add_zero]
    | split
    | with_reducible intro _
    | omega
end
end
/-! 67.22.class1.lean.txt -/
section
section
variable {g : RO} {Q : Ot → Hw → Prop} {w0 w : Hw} {x nA cA lA : Nat} {kn : Int32}
set_option maxHeartbeats 4000000 in
theorem lX1_holdersOf_6 {a0 : Int64} {a1 : Int32} (hC : CC g w0 x nA cA lA kn w) (hQ : ∀ v : Int32, Q (.inl (some (.int v))) w) : ∀ (n rf md : Int32) (f : Nat → Int64) (gc gl : Nat → Option Nat), RO5 g w x nA cA lA n rf kn md f gc gl → ∀ (d : Nat) (i4 : Int32) (i5 : Int32) (i6 : Option Value) (k m : Nat), ¬ i5 < 0 → (6 : Int32).toInt - i5.toInt ≤ (d : Int) → k ≤ 0 → m ≤ 0 → WP (MX1_holdersOf g) Q (6, [some (.ref x), some (.long a0), none, some (.int a1), some (.int i4), some (.int i5), i6], [], w, k, m) := by
  rintro n rf md f gc gl ⟨hx, hn, hc, hl, hgc, hgl, hn0, hn1, rx, rn, rc, rl, ⟨d1, d2, d3, d4, d5, d6⟩, ⟨d7, d8, d9, d10, d11, d12⟩⟩ d
  induction d with
  | zero =>
    intro i4 i5 i6 k m z0 hm hk hs
    rw [eX1_holdersOf_6]
    repeat' first
      | with_reducible assumption
      | with_reducible refine And.intro ?_ ?_
      | with_reducible exact vpi6 (by assumption) (by assumption)
      | with_reducible exact vpi8 (by assumption) (by assumption)
      | with_reducible exact (ic_z (by assumption) (by assumption)).elim
      | with_reducible exact vpi12 (by assumption) (by assumption) (by assumption)
      | with_reducible refine sX0_holdsAs (by first | assumption | exact hgc _ _ (by assumption) | exact hgl _ _ (by assumption) | exact isR.ext (by assumption) (by assumption)) ?_
      | with_reducible refine go_R (by first | assumption | exact hgc _ _ (by assumption) | exact hgl _ _ (by assumption) | exact isR.ext (by assumption) (by assumption)) ?_
      | with_reducible exact hQ _
      | simp only [eX1_holdersOf_0, eX1_holdersOf_1, eX1_holdersOf_3, eX1_holdersOf_4, eX1_holdersOf_8, eX1_holdersOf_10, eX1_holdersOf_13, eX1_holdersOf_13N, eX1_holdersOf_14, eX1_holdersOf_17, eX1_holdersOf_19, eX1_holdersOf_20, eX1_holdersOf_20N, eX1_holdersOf_22, eX1_holdersOf_22N, eX1_holdersOf_24R, eX1_holdersOf_24N, eX1_holdersOf_27, eX1_holdersOf_27N, eX1_holdersOf_29, eX1_holdersOf_30, eX1_holdersOf_31, eX1_holdersOf_34, eX1_holdersOf_37, eX1_holdersOf_39, eX1_holdersOf_40, eX1_holdersOf_42, eX1_holdersOf_43, eX1_holdersOf_44, eX1_holdersOf_46, eX1_holdersOf_49, eX1_holdersOf_52, eX1_holdersOf_54, rx, rn, rc, rl, hx, hn, hc, hl, d1, d2, d3, d4, d5, d6, d7, d8, d9, d10, d11, d12, rd_n, upw_n, ite_le, n45, n54, true_or, or_true, false_or, or_false, false_and, and_false, kx_l, kx_r, go_s, gl_s, gi_s, gb_s2, gb_s3, gq_s, wt_nil, wt_int, wt_long, wt_ref, wt_null, nl_int, nl_long, nl_ref, nl_null, nl_none, rf_n, rf_s, rf_st, tl_s, tl_n, g0, gS, ex1, nb_b, nb_0, nb_1, nf_i, nf_l, nf_ra, nf_ro, nf_na, nf_no, nf_b0, nf_z0, t45_4, t45_5, true_and, and_true, List.set_cons_zero, List.set_cons_succ, List.length_cons, List.length_nil, rd_s, upw_s, ne_eq, not_false_eq_true, Nat.zero_add, Nat.add_zero]
      | split
      | with_reducible intro _
      | omega
  | succ d ih =>
    intro i4 i5 i6 k m z0 hm hk hs
    rw [eX1_holdersOf_6]
    repeat' first
      | with_reducible assumption
      | with_reducible refine And.intro ?_ ?_
      | with_reducible exact vpi6 (by assumption) (by assumption)
      | with_reducible exact vpi8 (by assumption) (by assumption)
      | with_reducible exact ih _ _ _ _ _ (ic_p (by assumption) (by assumption)) (ic_s (by assumption) (by assumption)) (by first | assumption | omega) (by first | assumption | omega)
      | with_reducible exact vpi12 (by assumption) (by assumption) (by assumption)
      | with_reducible refine sX0_holdsAs (by first | assumption | exact hgc _ _ (by assumption) | exact hgl _ _ (by assumption) | exact isR.ext (by assumption) (by assumption)) ?_
      | with_reducible refine go_R (by first | assumption | exact hgc _ _ (by assumption) | exact hgl _ _ (by assumption) | exact isR.ext (by assumption) (by assumption)) ?_
      | with_reducible exact hQ _
      | simp only [eX1_holdersOf_0, eX1_holdersOf_1, eX1_holdersOf_3, eX1_holdersOf_4, eX1_holdersOf_8, eX1_holdersOf_10, eX1_holdersOf_13, eX1_holdersOf_13N, eX1_holdersOf_14, eX1_holdersOf_17, eX1_holdersOf_19, eX1_holdersOf_20, eX1_holdersOf_20N, eX1_holdersOf_22, eX1_holdersOf_22N, eX1_holdersOf_24R, eX1_holdersOf_24N, eX1_holdersOf_27, eX1_holdersOf_27N, eX1_holdersOf_29, eX1_holdersOf_30, eX1_holdersOf_31, eX1_holdersOf_34, eX1_holdersOf_37, eX1_holdersOf_39, eX1_holdersOf_40, eX1_holdersOf_42, eX1_holdersOf_43, eX1_holdersOf_44, eX1_holdersOf_46, eX1_holdersOf_49, eX1_holdersOf_52, eX1_holdersOf_54, rx, rn, rc, rl, hx, hn, hc, hl, d1, d2, d3, d4, d5, d6, d7, d8, d9, d10, d11, d12, rd_n, upw_n, ite_le, n45, n54, true_or, or_true, false_or, or_false, false_and, and_false, kx_l, kx_r, go_s, gl_s, gi_s, gb_s2, gb_s3, gq_s, wt_nil, wt_int, wt_long, wt_ref, wt_null, nl_int, nl_long, nl_ref, nl_null, nl_none, rf_n, rf_s, rf_st, tl_s, tl_n, g0, gS, ex1, nb_b, nb_0, nb_1, nf_i, nf_l, nf_ra, nf_ro, nf_na, nf_no, nf_b0, nf_z0, t45_4, t45_5, true_and, and_true, List.set_cons_zero, List.set_cons_succ, List.length_cons, List.length_nil, rd_s, upw_s, ne_eq, not_false_eq_true, Nat.zero_add, Nat.add_zero]
      | split
      | with_reducible intro _
      | omega
set_option maxHeartbeats 4000000 in
theorem sX1_holdersOf {a0 : Int64} {a1 : Int32} (hC : CC g w0 x nA cA lA kn w) (hQ : ∀ v : Int32, Q (.inl (some (.int v))) w) : WP (MX1_holdersOf g) Q (0, [some (.ref x), some (.long a0), none, some (.int a1), none, none, none], [], w, 0, 0) := by
  obtain ⟨n, rf, md, f, gc, gl, hx, hn, hc, hl, hgc, hgl, hn0, hn1, rx, rn, rc, rl, ⟨d1, d2, d3, d4, d5, d6⟩, ⟨d7, d8, d9, d10, d11, d12⟩⟩ := hC.1.opn g
  repeat' first
    | with_reducible assumption
    | with_reducible refine And.intro ?_ ?_
    | with_reducible exact vpi6 (by assumption) (by assumption)
    | with_reducible exact vpi8 (by assumption) (by assumption)
    | with_reducible exact lX1_holdersOf_6 hC hQ _ _ _ _ _ _ ⟨hx, hn, hc, hl, hgc, hgl, hn0, hn1, rx, rn, rc, rl, ⟨d1, d2, d3, d4, d5, d6⟩, ⟨d7, d8, d9, d10, d11, d12⟩⟩ 70 _ _ _ _ _ (by first | decide | assumption) (by first | decide | exact n12 (by assumption) | exact n60 (by assumption)) (by first | decide | omega) (by first | decide | omega)
    | with_reducible refine sX0_holdsAs (by first | assumption | exact hgc _ _ (by assumption) | exact hgl _ _ (by assumption) | exact isR.ext (by assumption) (by assumption)) ?_
    | with_reducible refine go_R (by first | assumption | exact hgc _ _ (by assumption) | exact hgl _ _ (by assumption) | exact isR.ext (by assumption) (by assumption)) ?_
    | with_reducible exact hQ _
    | simp only [eX1_holdersOf_0, eX1_holdersOf_1, eX1_holdersOf_3, eX1_holdersOf_4, eX1_holdersOf_8, eX1_holdersOf_10, eX1_holdersOf_13, eX1_holdersOf_13N, eX1_holdersOf_14, eX1_holdersOf_17, eX1_holdersOf_19, eX1_holdersOf_20, eX1_holdersOf_20N, eX1_holdersOf_22, eX1_holdersOf_22N, eX1_holdersOf_24R, eX1_holdersOf_24N, eX1_holdersOf_27, eX1_holdersOf_27N, eX1_holdersOf_29, eX1_holdersOf_30, eX1_holdersOf_31, eX1_holdersOf_34, eX1_holdersOf_37, eX1_holdersOf_39, eX1_holdersOf_40, eX1_holdersOf_42, eX1_holdersOf_43, eX1_holdersOf_44, eX1_holdersOf_46, eX1_holdersOf_49, eX1_holdersOf_52, eX1_holdersOf_54, rx, rn, rc, rl, hx, hn, hc, hl, d1, d2, d3, d4, d5, d6, d7, d8, d9, d10, d11, d12, rd_n, upw_n, ite_le, n45, n54, true_or, or_true, false_or, or_false, false_and, and_false, kx_l, kx_r, go_s, gl_s, gi_s, gb_s2, gb_s3, gq_s, wt_nil, wt_int, wt_long, wt_ref, wt_null, nl_int, nl_long, nl_ref, nl_null, nl_none, rf_n, rf_s, rf_st, tl_s, tl_n, g0, gS, ex1, nb_b, nb_0, nb_1, nf_i, nf_l, nf_ra, nf_ro, nf_na, nf_no, nf_b0, nf_z0, t45_4, t45_5, true_and, and_true, List.set_cons_zero, List.set_cons_succ, List.length_cons, List.length_nil, rd_s, upw_s, ne_eq, not_false_eq_true, Nat.zero_add, Nat.add_zero]
    | split
    | with_reducible intro _
    | omega
set_option maxHeartbeats 4000000 in
theorem sX1_isSo {a0 : Nat} {a1 : Int32} (h0 : isR w a0) (k0 : ¬ a1 < 0) (k1 : ¬ 2 < a1) (hQ : ∀ v : Bool, Q (.inl (some (.int (bI v)))) w) : WP (MX1_isSo g) Q (0, [some (.ref a0), some (.int a1)], [], w, 0, 0) := by
  have hQt : Q (.inl (some (.int 1))) w := hQ true
  have hQf : Q (.inl (some (.int 0))) w := hQ false
  rcases i02 k0 k1 with rfl | rfl | rfl
  · repeat' first
      | with_reducible assumption
      | with_reducible refine And.intro ?_ ?_
      | with_reducible exact vpi6 (by assumption) (by assumption)
      | with_reducible exact vpi8 (by assumption) (by assumption)
      | with_reducible refine sX0_isSettled (by first | assumption | exact hgc _ _ (by assumption) | exact hgl _ _ (by assumption) | exact isR.ext (by assumption) (by assumption)) ?_
      | with_reducible refine sX0_fitsSmall (by first | assumption | exact hgc _ _ (by assumption) | exact hgl _ _ (by assumption) | exact isR.ext (by assumption) (by assumption)) ?_
      | with_reducible refine go_R (by assumption) ?_
      | with_reducible exact hQ _
      | with_reducible exact hQt
      | with_reducible exact hQf
      | simp only [eX1_isSo_0, eX1_isSo_1_0, eX1_isSo_1_1, eX1_isSo_1_2, eX1_isSo_1_3, eX1_isSo_1_4, eX1_isSo_28, eX1_isSo_28N, eX1_isSo_29, eX1_isSo_32, eX1_isSo_33, eX1_isSo_33N, eX1_isSo_34, eX1_isSo_37, eX1_isSo_38, eX1_isSo_39, ite_le, n45, n54, true_or, or_true, false_or, or_false, false_and, and_false, kx_l, kx_r, go_s, gl_s, gi_s, gb_s2, gb_s3, gq_s, wt_nil, wt_int, wt_long, wt_ref, wt_null, nl_int, nl_long, nl_ref, nl_null, nl_none, rf_n, rf_s, rf_st, tl_s, tl_n, g0, gS, ex1, nb_b, nb_0, nb_1, nf_i, nf_l, nf_ra, nf_ro, nf_na, nf_no, nf_b0, nf_z0, t45_4, t45_5, true_and, and_true, List.set_cons_zero, List.set_cons_succ, List.length_cons, List.length_nil, rd_s, upw_s, ne_eq, not_false_eq_true, Nat.zero_add, Nat.add_zero]
      | split
      | with_reducible intro _
      | omega
  · repeat' first
      | with_reducible assumption
      | with_reducible refine And.intro ?_ ?_
      | with_reducible exact vpi6 (by assumption) (by assumption)
      | with_reducible exact vpi8 (by assumption) (by assumption)
      | with_reducible refine sX0_isSettled (by first | assumption | exact hgc _ _ (by assumption) | exact hgl _ _ (by assumption) | exact isR.ext (by assumption) (by assumption)) ?_
      | with_reducible refine sX0_fitsSmall (by first | assumption | exact hgc _ _ (by assumption) | exact hgl _ _ (by assumption) | exact isR.ext (by assumption) (by assumption)) ?_
      | with_reducible refine go_R (by assumption) ?_
      | with_reducible exact hQ _
      | with_reducible exact hQt
      | with_reducible exact hQf
      | simp only [eX1_isSo_0, eX1_isSo_1_0, eX1_isSo_1_1, eX1_isSo_1_2, eX1_isSo_1_3, eX1_isSo_1_4, eX1_isSo_28, eX1_isSo_28N, eX1_isSo_29, eX1_isSo_32, eX1_isSo_33, eX1_isSo_33N, eX1_isSo_34, eX1_isSo_37, eX1_isSo_38, eX1_isSo_39, ite_le, n45, n54, true_or, or_true, false_or, or_false, false_and, and_false, kx_l, kx_r, go_s, gl_s, gi_s, gb_s2, gb_s3, gq_s, wt_nil, wt_int, wt_long, wt_ref, wt_null, nl_int, nl_long, nl_ref, nl_null, nl_none, rf_n, rf_s, rf_st, tl_s, tl_n, g0, gS, ex1, nb_b, nb_0, nb_1, nf_i, nf_l, nf_ra, nf_ro, nf_na, nf_no, nf_b0, nf_z0, t45_4, t45_5, true_and, and_true, List.set_cons_zero, List.set_cons_succ, List.length_cons, List.length_nil, rd_s, upw_s, ne_eq, not_false_eq_true, Nat.zero_add, Nat.add_zero]
      | split
      | with_reducible intro _
      | omega
  · repeat' first
      | with_reducible assumption
      | with_reducible refine And.intro ?_ ?_
      | with_reducible exact vpi6 (by assumption) (by assumption)
      | with_reducible exact vpi8 (by assumption) (by assumption)
      | with_reducible refine sX0_isSettled (by first | assumption | exact hgc _ _ (by assumption) | exact hgl _ _ (by assumption) | exact isR.ext (by assumption) (by assumption)) ?_
      | with_reducible refine sX0_fitsSmall (by first | assumption | exact hgc _ _ (by assumption) | exact hgl _ _ (by assumption) | exact isR.ext (by assumption) (by assumption)) ?_
      | with_reducible refine go_R (by assumption) ?_
      | with_reducible exact hQ _
      | with_reducible exact hQt
      | with_reducible exact hQf
      | simp only [eX1_isSo_0, eX1_isSo_1_0, eX1_isSo_1_1, eX1_isSo_1_2, eX1_isSo_1_3, eX1_isSo_1_4, eX1_isSo_28, eX1_isSo_28N, eX1_isSo_29, eX1_isSo_32, eX1_isSo_33, eX1_isSo_33N, eX1_isSo_34, eX1_isSo_37, eX1_isSo_38, eX1_isSo_39, ite_le, n45, n54, true_or, or_true, false_or, or_false, false_and, and_false, kx_l, kx_r, go_s, gl_s, gi_s, gb_s2, gb_s3, gq_s, wt_nil, wt_int, wt_long, wt_ref, wt_null, nl_int, nl_long, nl_ref, nl_null, nl_none, rf_n, rf_s, rf_st, tl_s, tl_n, g0, gS, ex1, nb_b, nb_0, nb_1, nf_i, nf_l, nf_ra, nf_ro, nf_na, nf_no, nf_b0, nf_z0, t45_4, t45_5, true_and, and_true, List.set_cons_zero, List.set_cons_succ, List.length_cons, List.length_nil, rd_s, upw_s, ne_eq, not_false_eq_true, Nat.zero_add, Nat.add_zero]
      | split
      | with_reducible intro _
      | omega
set_option maxHeartbeats 4000000 in
theorem lX1_cardsThatAre_4 {a0 : Int32} (hC : CC g w0 x nA cA lA kn w) (hQ : ∀ v : Int32, Q (.inl (some (.int v))) w) (k0 : ¬ a0 < 0) (k1 : ¬ 2 < a0) : ∀ (n rf md : Int32) (f : Nat → Int64) (gc gl : Nat → Option Nat), RO5 g w x nA cA lA n rf kn md f gc gl → ∀ (d : Nat) (i2 : Int32) (i3 : Int32) (i4 : Option Value) (k m : Nat), ¬ i3 < 0 → (6 : Int32).toInt - i3.toInt ≤ (d : Int) → k ≤ 0 → m ≤ 0 → WP (MX1_cardsThatAre g) Q (4, [some (.ref x), some (.int a0), some (.int i2), some (.int i3), i4], [], w, k, m) := by
  rintro n rf md f gc gl ⟨hx, hn, hc, hl, hgc, hgl, hn0, hn1, rx, rn, rc, rl, ⟨d1, d2, d3, d4, d5, d6⟩, ⟨d7, d8, d9, d10, d11, d12⟩⟩ d
  induction d with
  | zero =>
    intro i2 i3 i4 k m z0 hm hk hs
    rw [eX1_cardsThatAre_4]
    repeat' first
      | with_reducible assumption
      | with_reducible refine And.intro ?_ ?_
      | with_reducible exact vpi6 (by assumption) (by assumption)
      | with_reducible exact vpi8 (by assumption) (by assumption)
      | with_reducible exact (ic_z (by assumption) (by assumption)).elim
      | with_reducible exact vpi12 (by assumption) (by assumption) (by assumption)
      | with_reducible refine sX1_isSo (by first | assumption | exact hgc _ _ (by assumption) | exact hgl _ _ (by assumption) | exact isR.ext (by assumption) (by assumption)) (by assumption) (by assumption) ?_
      | with_reducible refine go_R (by first | assumption | exact hgc _ _ (by assumption) | exact hgl _ _ (by assumption) | exact isR.ext (by assumption) (by assumption)) ?_
      | with_reducible exact hQ _
      | simp only [eX1_cardsThatAre_0, eX1_cardsThatAre_1, eX1_cardsThatAre_2, eX1_cardsThatAre_3, eX1_cardsThatAre_5, eX1_cardsThatAre_7, eX1_cardsThatAre_10, eX1_cardsThatAre_10N, eX1_cardsThatAre_11, eX1_cardsThatAre_14, eX1_cardsThatAre_15, eX1_cardsThatAre_16, eX1_cardsThatAre_16N, eX1_cardsThatAre_18, eX1_cardsThatAre_18N, eX1_cardsThatAre_20R, eX1_cardsThatAre_20N, eX1_cardsThatAre_23, eX1_cardsThatAre_23N, eX1_cardsThatAre_25, eX1_cardsThatAre_26R, eX1_cardsThatAre_26N, eX1_cardsThatAre_29, eX1_cardsThatAre_32, eX1_cardsThatAre_33, eX1_cardsThatAre_34, eX1_cardsThatAre_35, eX1_cardsThatAre_36, eX1_cardsThatAre_37, eX1_cardsThatAre_38, eX1_cardsThatAre_41, eX1_cardsThatAre_44, eX1_cardsThatAre_45, rx, rn, rc, rl, hx, hn, hc, hl, d1, d2, d3, d4, d5, d6, d7, d8, d9, d10, d11, d12, rd_n, upw_n, ite_le, n45, n54, true_or, or_true, false_or, or_false, false_and, and_false, kx_l, kx_r, go_s, gl_s, gi_s, gb_s2, gb_s3, gq_s, wt_nil, wt_int, wt_long, wt_ref, wt_null, nl_int, nl_long, nl_ref, nl_null, nl_none, rf_n, rf_s, rf_st, tl_s, tl_n, g0, gS, ex1, nb_b, nb_0, nb_1, nf_i, nf_l, nf_ra, nf_ro, nf_na, nf_no, nf_b0, nf_z0, t45_4, t45_5, true_and, and_true, List.set_cons_zero, List.set_cons_succ, List.length_cons, List.length_nil, rd_s, upw_s, ne_eq, not_false_eq_true, Nat.zero_add, Nat.add_zero]
      | split
      | with_reducible intro _
      | omega
  | succ d ih =>
    intro i2 i3 i4 k m z0 hm hk hs
    rw [eX1_cardsThatAre_4]
    repeat' first
      | with_reducible assumption
      | with_reducible refine And.intro ?_ ?_
      | with_reducible exact vpi6 (by assumption) (by assumption)
      | with_reducible exact vpi8 (by assumption) (by assumption)
      | with_reducible exact ih _ _ _ _ _ (ic_p (by assumption) (by assumption)) (ic_s (by assumption) (by assumption)) (by first | assumption | omega) (by first | assumption | omega)
      | with_reducible exact vpi12 (by assumption) (by assumption) (by assumption)
      | with_reducible refine sX1_isSo (by first | assumption | exact hgc _ _ (by assumption) | exact hgl _ _ (by assumption) | exact isR.ext (by assumption) (by assumption)) (by assumption) (by assumption) ?_
      | with_reducible refine go_R (by first | assumption | exact hgc _ _ (by assumption) | exact hgl _ _ (by assumption) | exact isR.ext (by assumption) (by assumption)) ?_
      | with_reducible exact hQ _
      | simp only [eX1_cardsThatAre_0, eX1_cardsThatAre_1, eX1_cardsThatAre_2, eX1_cardsThatAre_3, eX1_cardsThatAre_5, eX1_cardsThatAre_7, eX1_cardsThatAre_10, eX1_cardsThatAre_10N, eX1_cardsThatAre_11, eX1_cardsThatAre_14, eX1_cardsThatAre_15, eX1_cardsThatAre_16, eX1_cardsThatAre_16N, eX1_cardsThatAre_18, eX1_cardsThatAre_18N, eX1_cardsThatAre_20R, eX1_cardsThatAre_20N, eX1_cardsThatAre_23, eX1_cardsThatAre_23N, eX1_cardsThatAre_25, eX1_cardsThatAre_26R, eX1_cardsThatAre_26N, eX1_cardsThatAre_29, eX1_cardsThatAre_32, eX1_cardsThatAre_33, eX1_cardsThatAre_34, eX1_cardsThatAre_35, eX1_cardsThatAre_36, eX1_cardsThatAre_37, eX1_cardsThatAre_38, eX1_cardsThatAre_41, eX1_cardsThatAre_44, eX1_cardsThatAre_45, rx, rn, rc, rl, hx, hn, hc, hl, d1, d2, d3, d4, d5, d6, d7, d8, d9, d10, d11, d12, rd_n, upw_n, ite_le, n45, n54, true_or, or_true, false_or, or_false, false_and, and_false, kx_l, kx_r, go_s, gl_s, gi_s, gb_s2, gb_s3, gq_s, wt_nil, wt_int, wt_long, wt_ref, wt_null, nl_int, nl_long, nl_ref, nl_null, nl_none, rf_n, rf_s, rf_st, tl_s, tl_n, g0, gS, ex1, nb_b, nb_0, nb_1, nf_i, nf_l, nf_ra, nf_ro, nf_na, nf_no, nf_b0, nf_z0, t45_4, t45_5, true_and, and_true, List.set_cons_zero, List.set_cons_succ, List.length_cons, List.length_nil, rd_s, upw_s, ne_eq, not_false_eq_true, Nat.zero_add, Nat.add_zero]
      | split
      | with_reducible intro _
      | omega
set_option maxHeartbeats 4000000 in
theorem sX1_cardsThatAre {a0 : Int32} (hC : CC g w0 x nA cA lA kn w) (hQ : ∀ v : Int32, Q (.inl (some (.int v))) w) (k0 : ¬ a0 < 0) (k1 : ¬ 2 < a0) : WP (MX1_cardsThatAre g) Q (0, [some (.ref x), some (.int a0), none, none, none], [], w, 0, 0) := by
  obtain ⟨n, rf, md, f, gc, gl, hx, hn, hc, hl, hgc, hgl, hn0, hn1, rx, rn, rc, rl, ⟨d1, d2, d3, d4, d5, d6⟩, ⟨d7, d8, d9, d10, d11, d12⟩⟩ := hC.1.opn g
  repeat' first
    | with_reducible assumption
    | with_reducible refine And.intro ?_ ?_
    | with_reducible exact vpi6 (by assumption) (by assumption)
    | with_reducible exact vpi8 (by assumption) (by assumption)
    | with_reducible exact lX1_cardsThatAre_4 hC hQ k0 k1 _ _ _ _ _ _ ⟨hx, hn, hc, hl, hgc, hgl, hn0, hn1, rx, rn, rc, rl, ⟨d1, d2, d3, d4, d5, d6⟩, ⟨d7, d8, d9, d10, d11, d12⟩⟩ 70 _ _ _ _ _ (by first | decide | assumption) (by first | decide | exact n12 (by assumption) | exact n60 (by assumption)) (by first | decide | omega) (by first | decide | omega)
    | with_reducible refine sX1_isSo (by first | assumption | exact hgc _ _ (by assumption) | exact hgl _ _ (by assumption) | exact isR.ext (by assumption) (by assumption)) (by assumption) (by assumption) ?_
    | with_reducible refine go_R (by first | assumption | exact hgc _ _ (by assumption) | exact hgl _ _ (by assumption) | exact isR.ext (by assumption) (by assumption)) ?_
    | with_reducible exact hQ _
    | simp only [eX1_cardsThatAre_0, eX1_cardsThatAre_1, eX1_cardsThatAre_2, eX1_cardsThatAre_3, eX1_cardsThatAre_5, eX1_cardsThatAre_7, eX1_cardsThatAre_10, eX1_cardsThatAre_10N, eX1_cardsThatAre_11, eX1_cardsThatAre_14, eX1_cardsThatAre_15, eX1_cardsThatAre_16, eX1_cardsThatAre_16N, eX1_cardsThatAre_18, eX1_cardsThatAre_18N, eX1_cardsThatAre_20R, eX1_cardsThatAre_20N, eX1_cardsThatAre_23, eX1_cardsThatAre_23N, eX1_cardsThatAre_25, eX1_cardsThatAre_26R, eX1_cardsThatAre_26N, eX1_cardsThatAre_29, eX1_cardsThatAre_32, eX1_cardsThatAre_33, eX1_cardsThatAre_34, eX1_cardsThatAre_35, eX1_cardsThatAre_36, eX1_cardsThatAre_37, eX1_cardsThatAre_38, eX1_cardsThatAre_41, eX1_cardsThatAre_44, eX1_cardsThatAre_45, rx, rn, rc, rl, hx, hn, hc, hl, d1, d2, d3, d4, d5, d6, d7, d8, d9, d10, d11, d12, rd_n, upw_n, ite_le, n45, n54, true_or, or_true, false_or, or_false, false_and, and_false, kx_l, kx_r, go_s, gl_s, gi_s, gb_s2, gb_s3, gq_s, wt_nil, wt_int, wt_long, wt_ref, wt_null, nl_int, nl_long, nl_ref, nl_null, nl_none, rf_n, rf_s, rf_st, tl_s, tl_n, g0, gS, ex1, nb_b, nb_0, nb_1, nf_i, nf_l, nf_ra, nf_ro, nf_na, nf_no, nf_b0, nf_z0, t45_4, t45_5, true_and, and_true, List.set_cons_zero, List.set_cons_succ, List.length_cons, List.length_nil, rd_s, upw_s, ne_eq, not_false_eq_true, Nat.zero_add, Nat.add_zero]
    | split
    | with_reducible intro _
    | omega
end
end
/-! 67.22.class2.lean.txt -/
section
section
variable {g : RO} {Q : Ot → Hw → Prop} {w0 w : Hw} {x nA cA lA : Nat} {kn : Int32}
set_option maxHeartbeats 4000000 in
theorem lX1_cardsLike_4 {a0 : Nat} (hC : CC g w0 x nA cA lA kn w) (h0 : isR w a0) (hQ : ∀ v : Int32, Q (.inl (some (.int v))) w) : ∀ (n rf md : Int32) (f : Nat → Int64) (gc gl : Nat → Option Nat), RO5 g w x nA cA lA n rf kn md f gc gl → ∀ (d : Nat) (i2 : Int32) (i3 : Int32) (i4 : Option Value) (k m : Nat), ¬ i3 < 0 → (6 : Int32).toInt - i3.toInt ≤ (d : Int) → k ≤ 0 → m ≤ 0 → WP (MX1_cardsLike g) Q (4, [some (.ref x), some (.ref a0), some (.int i2), some (.int i3), i4], [], w, k, m) := by
  rintro n rf md f gc gl ⟨hx, hn, hc, hl, hgc, hgl, hn0, hn1, rx, rn, rc, rl, ⟨d1, d2, d3, d4, d5, d6⟩, ⟨d7, d8, d9, d10, d11, d12⟩⟩ d
  induction d with
  | zero =>
    intro i2 i3 i4 k m z0 hm hk hs
    rw [eX1_cardsLike_4]
    repeat' first
      | with_reducible assumption
      | with_reducible refine And.intro ?_ ?_
      | with_reducible exact vpi6 (by assumption) (by assumption)
      | with_reducible exact vpi8 (by assumption) (by assumption)
      | with_reducible exact (ic_z (by assumption) (by assumption)).elim
      | with_reducible exact vpi12 (by assumption) (by assumption) (by assumption)
      | with_reducible refine sX0_matchesR (by first | assumption | exact hgc _ _ (by assumption) | exact hgl _ _ (by assumption) | exact isR.ext (by assumption) (by assumption)) (by first | assumption | exact hgc _ _ (by assumption) | exact hgl _ _ (by assumption) | exact isR.ext (by assumption) (by assumption)) ?_
      | with_reducible refine sX0_matchesN (by first | assumption | exact hgc _ _ (by assumption) | exact hgl _ _ (by assumption) | exact isR.ext (by assumption) (by assumption)) ?_
      | with_reducible refine sX0_hash (by first | assumption | exact hgc _ _ (by assumption) | exact hgl _ _ (by assumption) | exact isR.ext (by assumption) (by assumption)) ?_
      | with_reducible refine go_R (by first | assumption | exact hgc _ _ (by assumption) | exact hgl _ _ (by assumption) | exact isR.ext (by assumption) (by assumption)) ?_
      | with_reducible exact hQ _
      | simp only [eX1_cardsLike_0, eX1_cardsLike_1, eX1_cardsLike_2, eX1_cardsLike_3, eX1_cardsLike_5, eX1_cardsLike_7, eX1_cardsLike_10, eX1_cardsLike_10N, eX1_cardsLike_11, eX1_cardsLike_14, eX1_cardsLike_15, eX1_cardsLike_16, eX1_cardsLike_16N, eX1_cardsLike_18, eX1_cardsLike_18N, eX1_cardsLike_20R, eX1_cardsLike_20N, eX1_cardsLike_23, eX1_cardsLike_23N, eX1_cardsLike_24, eX1_cardsLike_24N, eX1_cardsLike_26R, eX1_cardsLike_26N, eX1_cardsLike_29, eX1_cardsLike_32, eX1_cardsLike_32N, eX1_cardsLike_33, eX1_cardsLike_36, eX1_cardsLike_36N, eX1_cardsLike_38, eX1_cardsLike_41, eX1_cardsLike_42, eX1_cardsLike_45, eX1_cardsLike_46, eX1_cardsLike_47, eX1_cardsLike_48, eX1_cardsLike_49, eX1_cardsLike_50, eX1_cardsLike_51, eX1_cardsLike_54, eX1_cardsLike_57, eX1_cardsLike_58, rx, rn, rc, rl, hx, hn, hc, hl, d1, d2, d3, d4, d5, d6, d7, d8, d9, d10, d11, d12, rd_n, upw_n, ite_le, n45, n54, true_or, or_true, false_or, or_false, false_and, and_false, kx_l, kx_r, go_s, gl_s, gi_s, gb_s2, gb_s3, gq_s, wt_nil, wt_int, wt_long, wt_ref, wt_null, nl_int, nl_long, nl_ref, nl_null, nl_none, rf_n, rf_s, rf_st, tl_s, tl_n, g0, gS, ex1, nb_b, nb_0, nb_1, nf_i, nf_l, nf_ra, nf_ro, nf_na, nf_no, nf_b0, nf_z0, t45_4, t45_5, true_and, and_true, List.set_cons_zero, List.set_cons_succ, List.length_cons, List.length_nil, rd_s, upw_s, ne_eq, not_false_eq_true, Nat.zero_add, Nat.add_zero]
      | split
      | with_reducible intro _
      | omega
  | succ d ih =>
    intro i2 i3 i4 k m z0 hm hk hs
    rw [eX1_cardsLike_4]
    repeat' first
      | with_reducible assumption
      | with_reducible refine And.intro ?_ ?_
      | with_reducible exact vpi6 (by assumption) (by assumption)
      | with_reducible exact vpi8 (by assumption) (by assumption)
      | with_reducible exact ih _ _ _ _ _ (ic_p (by assumption) (by assumption)) (ic_s (by assumption) (by assumption)) (by first | assumption | omega) (by first | assumption | omega)
      | with_reducible exact vpi12 (by assumption) (by assumption) (by assumption)
      | with_reducible refine sX0_matchesR (by first | assumption | exact hgc _ _ (by assumption) | exact hgl _ _ (by assumption) | exact isR.ext (by assumption) (by assumption)) (by first | assumption | exact hgc _ _ (by assumption) | exact hgl _ _ (by assumption) | exact isR.ext (by assumption) (by assumption)) ?_
      | with_reducible refine sX0_matchesN (by first | assumption | exact hgc _ _ (by assumption) | exact hgl _ _ (by assumption) | exact isR.ext (by assumption) (by assumption)) ?_
      | with_reducible refine sX0_hash (by first | assumption | exact hgc _ _ (by assumption) | exact hgl _ _ (by assumption) | exact isR.ext (by assumption) (by assumption)) ?_
      | with_reducible refine go_R (by first | assumption | exact hgc _ _ (by assumption) | exact hgl _ _ (by assumption) | exact isR.ext (by assumption) (by assumption)) ?_
      | with_reducible exact hQ _
      | simp only [eX1_cardsLike_0, eX1_cardsLike_1, eX1_cardsLike_2, eX1_cardsLike_3, eX1_cardsLike_5, eX1_cardsLike_7, eX1_cardsLike_10, eX1_cardsLike_10N, eX1_cardsLike_11, eX1_cardsLike_14, eX1_cardsLike_15, eX1_cardsLike_16, eX1_cardsLike_16N, eX1_cardsLike_18, eX1_cardsLike_18N, eX1_cardsLike_20R, eX1_cardsLike_20N, eX1_cardsLike_23, eX1_cardsLike_23N, eX1_cardsLike_24, eX1_cardsLike_24N, eX1_cardsLike_26R, eX1_cardsLike_26N, eX1_cardsLike_29, eX1_cardsLike_32, eX1_cardsLike_32N, eX1_cardsLike_33, eX1_cardsLike_36, eX1_cardsLike_36N, eX1_cardsLike_38, eX1_cardsLike_41, eX1_cardsLike_42, eX1_cardsLike_45, eX1_cardsLike_46, eX1_cardsLike_47, eX1_cardsLike_48, eX1_cardsLike_49, eX1_cardsLike_50, eX1_cardsLike_51, eX1_cardsLike_54, eX1_cardsLike_57, eX1_cardsLike_58, rx, rn, rc, rl, hx, hn, hc, hl, d1, d2, d3, d4, d5, d6, d7, d8, d9, d10, d11, d12, rd_n, upw_n, ite_le, n45, n54, true_or, or_true, false_or, or_false, false_and, and_false, kx_l, kx_r, go_s, gl_s, gi_s, gb_s2, gb_s3, gq_s, wt_nil, wt_int, wt_long, wt_ref, wt_null, nl_int, nl_long, nl_ref, nl_null, nl_none, rf_n, rf_s, rf_st, tl_s, tl_n, g0, gS, ex1, nb_b, nb_0, nb_1, nf_i, nf_l, nf_ra, nf_ro, nf_na, nf_no, nf_b0, nf_z0, t45_4, t45_5, true_and, and_true, List.set_cons_zero, List.set_cons_succ, List.length_cons, List.length_nil, rd_s, upw_s, ne_eq, not_false_eq_true, Nat.zero_add, Nat.add_zero]
      | split
      | with_reducible intro _
      | omega
set_option maxHeartbeats 4000000 in
theorem sX1_cardsLike {a0 : Nat} (hC : CC g w0 x nA cA lA kn w) (h0 : isR w a0) (hQ : ∀ v : Int32, Q (.inl (some (.int v))) w) : WP (MX1_cardsLike g) Q (0, [some (.ref x), some (.ref a0), none, none, none], [], w, 0, 0) := by
  obtain ⟨n, rf, md, f, gc, gl, hx, hn, hc, hl, hgc, hgl, hn0, hn1, rx, rn, rc, rl, ⟨d1, d2, d3, d4, d5, d6⟩, ⟨d7, d8, d9, d10, d11, d12⟩⟩ := hC.1.opn g
  repeat' first
    | with_reducible assumption
    | with_reducible refine And.intro ?_ ?_
    | with_reducible exact vpi6 (by assumption) (by assumption)
    | with_reducible exact vpi8 (by assumption) (by assumption)
    | with_reducible exact lX1_cardsLike_4 hC h0 hQ _ _ _ _ _ _ ⟨hx, hn, hc, hl, hgc, hgl, hn0, hn1, rx, rn, rc, rl, ⟨d1, d2, d3, d4, d5, d6⟩, ⟨d7, d8, d9, d10, d11, d12⟩⟩ 70 _ _ _ _ _ (by first | decide | assumption) (by first | decide | exact n12 (by assumption) | exact n60 (by assumption)) (by first | decide | omega) (by first | decide | omega)
    | with_reducible refine sX0_matchesR (by first | assumption | exact hgc _ _ (by assumption) | exact hgl _ _ (by assumption) | exact isR.ext (by assumption) (by assumption)) (by first | assumption | exact hgc _ _ (by assumption) | exact hgl _ _ (by assumption) | exact isR.ext (by assumption) (by assumption)) ?_
    | with_reducible refine sX0_matchesN (by first | assumption | exact hgc _ _ (by assumption) | exact hgl _ _ (by assumption) | exact isR.ext (by assumption) (by assumption)) ?_
    | with_reducible refine sX0_hash (by first | assumption | exact hgc _ _ (by assumption) | exact hgl _ _ (by assumption) | exact isR.ext (by assumption) (by assumption)) ?_
    | with_reducible refine go_R (by first | assumption | exact hgc _ _ (by assumption) | exact hgl _ _ (by assumption) | exact isR.ext (by assumption) (by assumption)) ?_
    | with_reducible exact hQ _
    | simp only [eX1_cardsLike_0, eX1_cardsLike_1, eX1_cardsLike_2, eX1_cardsLike_3, eX1_cardsLike_5, eX1_cardsLike_7, eX1_cardsLike_10, eX1_cardsLike_10N, eX1_cardsLike_11, eX1_cardsLike_14, eX1_cardsLike_15, eX1_cardsLike_16, eX1_cardsLike_16N, eX1_cardsLike_18, eX1_cardsLike_18N, eX1_cardsLike_20R, eX1_cardsLike_20N, eX1_cardsLike_23, eX1_cardsLike_23N, eX1_cardsLike_24, eX1_cardsLike_24N, eX1_cardsLike_26R, eX1_cardsLike_26N, eX1_cardsLike_29, eX1_cardsLike_32, eX1_cardsLike_32N, eX1_cardsLike_33, eX1_cardsLike_36, eX1_cardsLike_36N, eX1_cardsLike_38, eX1_cardsLike_41, eX1_cardsLike_42, eX1_cardsLike_45, eX1_cardsLike_46, eX1_cardsLike_47, eX1_cardsLike_48, eX1_cardsLike_49, eX1_cardsLike_50, eX1_cardsLike_51, eX1_cardsLike_54, eX1_cardsLike_57, eX1_cardsLike_58, rx, rn, rc, rl, hx, hn, hc, hl, d1, d2, d3, d4, d5, d6, d7, d8, d9, d10, d11, d12, rd_n, upw_n, ite_le, n45, n54, true_or, or_true, false_or, or_false, false_and, and_false, kx_l, kx_r, go_s, gl_s, gi_s, gb_s2, gb_s3, gq_s, wt_nil, wt_int, wt_long, wt_ref, wt_null, nl_int, nl_long, nl_ref, nl_null, nl_none, rf_n, rf_s, rf_st, tl_s, tl_n, g0, gS, ex1, nb_b, nb_0, nb_1, nf_i, nf_l, nf_ra, nf_ro, nf_na, nf_no, nf_b0, nf_z0, t45_4, t45_5, true_and, and_true, List.set_cons_zero, List.set_cons_succ, List.length_cons, List.length_nil, rd_s, upw_s, ne_eq, not_false_eq_true, Nat.zero_add, Nat.add_zero]
    | split
    | with_reducible intro _
    | omega
set_option maxHeartbeats 4000000 in
theorem lX1_cardsWithRange_4  (hC : CC g w0 x nA cA lA kn w) (hQ : ∀ v : Int32, Q (.inl (some (.int v))) w) : ∀ (n rf md : Int32) (f : Nat → Int64) (gc gl : Nat → Option Nat), RO5 g w x nA cA lA n rf kn md f gc gl → ∀ (d : Nat) (i1 : Int32) (i2 : Int32) (k m : Nat), ¬ i2 < 0 → (6 : Int32).toInt - i2.toInt ≤ (d : Int) → k ≤ 0 → m ≤ 0 → WP (MX1_cardsWithRange g) Q (4, [some (.ref x), some (.int i1), some (.int i2)], [], w, k, m) := by
  rintro n rf md f gc gl ⟨hx, hn, hc, hl, hgc, hgl, hn0, hn1, rx, rn, rc, rl, ⟨d1, d2, d3, d4, d5, d6⟩, ⟨d7, d8, d9, d10, d11, d12⟩⟩ d
  induction d with
  | zero =>
    intro i1 i2 k m z0 hm hk hs
    rw [eX1_cardsWithRange_4]
    repeat' first
      | with_reducible assumption
      | with_reducible refine And.intro ?_ ?_
      | with_reducible exact vpi6 (by assumption) (by assumption)
      | with_reducible exact vpi8 (by assumption) (by assumption)
      | with_reducible exact (ic_z (by assumption) (by assumption)).elim
      | with_reducible exact vpi12 (by assumption) (by assumption) (by assumption)
      | with_reducible refine sX1_asNumber ?_
      | with_reducible refine go_R (by first | assumption | exact hgc _ _ (by assumption) | exact hgl _ _ (by assumption) | exact isR.ext (by assumption) (by assumption)) ?_
      | with_reducible exact hQ _
      | simp only [eX1_cardsWithRange_0, eX1_cardsWithRange_1, eX1_cardsWithRange_2, eX1_cardsWithRange_3, eX1_cardsWithRange_5, eX1_cardsWithRange_7, eX1_cardsWithRange_10, eX1_cardsWithRange_11, eX1_cardsWithRange_11N, eX1_cardsWithRange_12, eX1_cardsWithRange_15, eX1_cardsWithRange_16, eX1_cardsWithRange_17R, eX1_cardsWithRange_17N, eX1_cardsWithRange_20, eX1_cardsWithRange_21, eX1_cardsWithRange_24, eX1_cardsWithRange_25, eX1_cardsWithRange_28, eX1_cardsWithRange_29, eX1_cardsWithRange_30, eX1_cardsWithRange_33, eX1_cardsWithRange_36, eX1_cardsWithRange_37, rx, rn, rc, rl, hx, hn, hc, hl, d1, d2, d3, d4, d5, d6, d7, d8, d9, d10, d11, d12, rd_n, upw_n, ite_le, n45, n54, true_or, or_true, false_or, or_false, false_and, and_false, kx_l, kx_r, go_s, gl_s, gi_s, gb_s2, gb_s3, gq_s, wt_nil, wt_int, wt_long, wt_ref, wt_null, nl_int, nl_long, nl_ref, nl_null, nl_none, rf_n, rf_s, rf_st, tl_s, tl_n, g0, gS, ex1, nb_b, nb_0, nb_1, nf_i, nf_l, nf_ra, nf_ro, nf_na, nf_no, nf_b0, nf_z0, t45_4, t45_5, true_and, and_true, List.set_cons_zero, List.set_cons_succ, List.length_cons, List.length_nil, rd_s, upw_s, ne_eq, not_false_eq_true, Nat.zero_add, Nat.add_zero]
      | split
      | with_reducible intro _
      | omega
  | succ d ih =>
    intro i1 i2 k m z0 hm hk hs
    rw [eX1_cardsWithRange_4]
    repeat' first
      | with_reducible assumption
      | with_reducible refine And.intro ?_ ?_
      | with_reducible exact vpi6 (by assumption) (by assumption)
      | with_reducible exact vpi8 (by assumption) (by assumption)
      | with_reducible exact ih _ _ _ _ (ic_p (by assumption) (by assumption)) (ic_s (by assumption) (by assumption)) (by first | assumption | omega) (by first | assumption | omega)
      | with_reducible exact vpi12 (by assumption) (by assumption) (by assumption)
      | with_reducible refine sX1_asNumber ?_
      | with_reducible refine go_R (by first | assumption | exact hgc _ _ (by assumption) | exact hgl _ _ (by assumption) | exact isR.ext (by assumption) (by assumption)) ?_
      | with_reducible exact hQ _
      | simp only [eX1_cardsWithRange_0, eX1_cardsWithRange_1, eX1_cardsWithRange_2, eX1_cardsWithRange_3, eX1_cardsWithRange_5, eX1_cardsWithRange_7, eX1_cardsWithRange_10, eX1_cardsWithRange_11, eX1_cardsWithRange_11N, eX1_cardsWithRange_12, eX1_cardsWithRange_15, eX1_cardsWithRange_16, eX1_cardsWithRange_17R, eX1_cardsWithRange_17N, eX1_cardsWithRange_20, eX1_cardsWithRange_21, eX1_cardsWithRange_24, eX1_cardsWithRange_25, eX1_cardsWithRange_28, eX1_cardsWithRange_29, eX1_cardsWithRange_30, eX1_cardsWithRange_33, eX1_cardsWithRange_36, eX1_cardsWithRange_37, rx, rn, rc, rl, hx, hn, hc, hl, d1, d2, d3, d4, d5, d6, d7, d8, d9, d10, d11, d12, rd_n, upw_n, ite_le, n45, n54, true_or, or_true, false_or, or_false, false_and, and_false, kx_l, kx_r, go_s, gl_s, gi_s, gb_s2, gb_s3, gq_s, wt_nil, wt_int, wt_long, wt_ref, wt_null, nl_int, nl_long, nl_ref, nl_null, nl_none, rf_n, rf_s, rf_st, tl_s, tl_n, g0, gS, ex1, nb_b, nb_0, nb_1, nf_i, nf_l, nf_ra, nf_ro, nf_na, nf_no, nf_b0, nf_z0, t45_4, t45_5, true_and, and_true, List.set_cons_zero, List.set_cons_succ, List.length_cons, List.length_nil, rd_s, upw_s, ne_eq, not_false_eq_true, Nat.zero_add, Nat.add_zero]
      | split
      | with_reducible intro _
      | omega
set_option maxHeartbeats 4000000 in
theorem sX1_cardsWithRange  (hC : CC g w0 x nA cA lA kn w) (hQ : ∀ v : Int32, Q (.inl (some (.int v))) w) : WP (MX1_cardsWithRange g) Q (0, [some (.ref x), none, none], [], w, 0, 0) := by
  obtain ⟨n, rf, md, f, gc, gl, hx, hn, hc, hl, hgc, hgl, hn0, hn1, rx, rn, rc, rl, ⟨d1, d2, d3, d4, d5, d6⟩, ⟨d7, d8, d9, d10, d11, d12⟩⟩ := hC.1.opn g
  repeat' first
    | with_reducible assumption
    | with_reducible refine And.intro ?_ ?_
    | with_reducible exact vpi6 (by assumption) (by assumption)
    | with_reducible exact vpi8 (by assumption) (by assumption)
    | with_reducible exact lX1_cardsWithRange_4 hC hQ _ _ _ _ _ _ ⟨hx, hn, hc, hl, hgc, hgl, hn0, hn1, rx, rn, rc, rl, ⟨d1, d2, d3, d4, d5, d6⟩, ⟨d7, d8, d9, d10, d11, d12⟩⟩ 70 _ _ _ _ (by first | decide | assumption) (by first | decide | exact n12 (by assumption) | exact n60 (by assumption)) (by first | decide | omega) (by first | decide | omega)
    | with_reducible refine sX1_asNumber ?_
    | with_reducible refine go_R (by first | assumption | exact hgc _ _ (by assumption) | exact hgl _ _ (by assumption) | exact isR.ext (by assumption) (by assumption)) ?_
    | with_reducible exact hQ _
    | simp only [eX1_cardsWithRange_0, eX1_cardsWithRange_1, eX1_cardsWithRange_2, eX1_cardsWithRange_3, eX1_cardsWithRange_5, eX1_cardsWithRange_7, eX1_cardsWithRange_10, eX1_cardsWithRange_11, eX1_cardsWithRange_11N, eX1_cardsWithRange_12, eX1_cardsWithRange_15, eX1_cardsWithRange_16, eX1_cardsWithRange_17R, eX1_cardsWithRange_17N, eX1_cardsWithRange_20, eX1_cardsWithRange_21, eX1_cardsWithRange_24, eX1_cardsWithRange_25, eX1_cardsWithRange_28, eX1_cardsWithRange_29, eX1_cardsWithRange_30, eX1_cardsWithRange_33, eX1_cardsWithRange_36, eX1_cardsWithRange_37, rx, rn, rc, rl, hx, hn, hc, hl, d1, d2, d3, d4, d5, d6, d7, d8, d9, d10, d11, d12, rd_n, upw_n, ite_le, n45, n54, true_or, or_true, false_or, or_false, false_and, and_false, kx_l, kx_r, go_s, gl_s, gi_s, gb_s2, gb_s3, gq_s, wt_nil, wt_int, wt_long, wt_ref, wt_null, nl_int, nl_long, nl_ref, nl_null, nl_none, rf_n, rf_s, rf_st, tl_s, tl_n, g0, gS, ex1, nb_b, nb_0, nb_1, nf_i, nf_l, nf_ra, nf_ro, nf_na, nf_no, nf_b0, nf_z0, t45_4, t45_5, true_and, and_true, List.set_cons_zero, List.set_cons_succ, List.length_cons, List.length_nil, rd_s, upw_s, ne_eq, not_false_eq_true, Nat.zero_add, Nat.add_zero]
    | split
    | with_reducible intro _
    | omega
set_option maxHeartbeats 4000000 in
theorem lX1_firstPlaceOf_2 {a0 : Nat} (hC : CC g w0 x nA cA lA kn w) (h0 : isR w a0) (hQ : ∀ v : Int32, Q (.inl (some (.int v))) w) : ∀ (n rf md : Int32) (f : Nat → Int64) (gc gl : Nat → Option Nat), RO5 g w x nA cA lA n rf kn md f gc gl → ∀ (d : Nat) (i2 : Int32) (k m : Nat), ¬ i2 < 0 → (n : Int32).toInt - i2.toInt ≤ (d : Int) → k ≤ 0 → m ≤ 0 → WP (MX1_firstPlaceOf g) Q (2, [some (.ref x), some (.ref a0), some (.int i2)], [], w, k, m) := by
  rintro n rf md f gc gl ⟨hx, hn, hc, hl, hgc, hgl, hn0, hn1, rx, rn, rc, rl, ⟨d1, d2, d3, d4, d5, d6⟩, ⟨d7, d8, d9, d10, d11, d12⟩⟩ d
  induction d with
  | zero =>
    intro i2 k m z0 hm hk hs
    rw [eX1_firstPlaceOf_2]
    repeat' first
      | with_reducible assumption
      | with_reducible refine And.intro ?_ ?_
      | with_reducible exact vpi6 (by assumption) (by assumption)
      | with_reducible exact vpi8 (by assumption) (by assumption)
      | with_reducible exact (ic_z (by assumption) (by assumption)).elim
      | with_reducible exact vpi12 (by assumption) (by assumption) (by assumption)
      | with_reducible refine sX0_matchesR (by first | assumption | exact hgc _ _ (by assumption) | exact hgl _ _ (by assumption) | exact isR.ext (by assumption) (by assumption)) (by first | assumption | exact hgc _ _ (by assumption) | exact hgl _ _ (by assumption) | exact isR.ext (by assumption) (by assumption)) ?_
      | with_reducible refine sX0_matchesN (by first | assumption | exact hgc _ _ (by assumption) | exact hgl _ _ (by assumption) | exact isR.ext (by assumption) (by assumption)) ?_
      | with_reducible refine go_R (by first | assumption | exact hgc _ _ (by assumption) | exact hgl _ _ (by assumption) | exact isR.ext (by assumption) (by assumption)) ?_
      | with_reducible exact hQ _
      | simp only [eX1_firstPlaceOf_0, eX1_firstPlaceOf_1, eX1_firstPlaceOf_3, eX1_firstPlaceOf_3N, eX1_firstPlaceOf_4, eX1_firstPlaceOf_7, eX1_firstPlaceOf_10, eX1_firstPlaceOf_10N, eX1_firstPlaceOf_11, eX1_firstPlaceOf_11N, eX1_firstPlaceOf_12, eX1_firstPlaceOf_15, eX1_firstPlaceOf_16, eX1_firstPlaceOf_17R, eX1_firstPlaceOf_17N, eX1_firstPlaceOf_20, eX1_firstPlaceOf_23, eX1_firstPlaceOf_24, eX1_firstPlaceOf_25, eX1_firstPlaceOf_28, eX1_firstPlaceOf_31, eX1_firstPlaceOf_32, rx, rn, rc, rl, hx, hn, hc, hl, d1, d2, d3, d4, d5, d6, d7, d8, d9, d10, d11, d12, rd_n, upw_n, ite_le, n45, n54, true_or, or_true, false_or, or_false, false_and, and_false, kx_l, kx_r, go_s, gl_s, gi_s, gb_s2, gb_s3, gq_s, wt_nil, wt_int, wt_long, wt_ref, wt_null, nl_int, nl_long, nl_ref, nl_null, nl_none, rf_n, rf_s, rf_st, tl_s, tl_n, g0, gS, ex1, nb_b, nb_0, nb_1, nf_i, nf_l, nf_ra, nf_ro, nf_na, nf_no, nf_b0, nf_z0, t45_4, t45_5, true_and, and_true, List.set_cons_zero, List.set_cons_succ, List.length_cons, List.length_nil, rd_s, upw_s, ne_eq, not_false_eq_true, Nat.zero_add, Nat.add_zero]
      | split
      | with_reducible intro _
      | omega
  | succ d ih =>
    intro i2 k m z0 hm hk hs
    rw [eX1_firstPlaceOf_2]
    repeat' first
      | with_reducible assumption
      | with_reducible refine And.intro ?_ ?_
      | with_reducible exact vpi6 (by assumption) (by assumption)
      | with_reducible exact vpi8 (by assumption) (by assumption)
      | with_reducible exact ih _ _ _ (ic_p (by assumption) (by assumption)) (ic_s (by assumption) (by assumption)) (by first | assumption | omega) (by first | assumption | omega)
      | with_reducible exact vpi12 (by assumption) (by assumption) (by assumption)
      | with_reducible refine sX0_matchesR (by first | assumption | exact hgc _ _ (by assumption) | exact hgl _ _ (by assumption) | exact isR.ext (by assumption) (by assumption)) (by first | assumption | exact hgc _ _ (by assumption) | exact hgl _ _ (by assumption) | exact isR.ext (by assumption) (by assumption)) ?_
      | with_reducible refine sX0_matchesN (by first | assumption | exact hgc _ _ (by assumption) | exact hgl _ _ (by assumption) | exact isR.ext (by assumption) (by assumption)) ?_
      | with_reducible refine go_R (by first | assumption | exact hgc _ _ (by assumption) | exact hgl _ _ (by assumption) | exact isR.ext (by assumption) (by assumption)) ?_
      | with_reducible exact hQ _
      | simp only [eX1_firstPlaceOf_0, eX1_firstPlaceOf_1, eX1_firstPlaceOf_3, eX1_firstPlaceOf_3N, eX1_firstPlaceOf_4, eX1_firstPlaceOf_7, eX1_firstPlaceOf_10, eX1_firstPlaceOf_10N, eX1_firstPlaceOf_11, eX1_firstPlaceOf_11N, eX1_firstPlaceOf_12, eX1_firstPlaceOf_15, eX1_firstPlaceOf_16, eX1_firstPlaceOf_17R, eX1_firstPlaceOf_17N, eX1_firstPlaceOf_20, eX1_firstPlaceOf_23, eX1_firstPlaceOf_24, eX1_firstPlaceOf_25, eX1_firstPlaceOf_28, eX1_firstPlaceOf_31, eX1_firstPlaceOf_32, rx, rn, rc, rl, hx, hn, hc, hl, d1, d2, d3, d4, d5, d6, d7, d8, d9, d10, d11, d12, rd_n, upw_n, ite_le, n45, n54, true_or, or_true, false_or, or_false, false_and, and_false, kx_l, kx_r, go_s, gl_s, gi_s, gb_s2, gb_s3, gq_s, wt_nil, wt_int, wt_long, wt_ref, wt_null, nl_int, nl_long, nl_ref, nl_null, nl_none, rf_n, rf_s, rf_st, tl_s, tl_n, g0, gS, ex1, nb_b, nb_0, nb_1, nf_i, nf_l, nf_ra, nf_ro, nf_na, nf_no, nf_b0, nf_z0, t45_4, t45_5, true_and, and_true, List.set_cons_zero, List.set_cons_succ, List.length_cons, List.length_nil, rd_s, upw_s, ne_eq, not_false_eq_true, Nat.zero_add, Nat.add_zero]
      | split
      | with_reducible intro _
      | omega
set_option maxHeartbeats 4000000 in
theorem sX1_firstPlaceOf {a0 : Nat} (hC : CC g w0 x nA cA lA kn w) (h0 : isR w a0) (hQ : ∀ v : Int32, Q (.inl (some (.int v))) w) : WP (MX1_firstPlaceOf g) Q (0, [some (.ref x), some (.ref a0), none], [], w, 0, 0) := by
  obtain ⟨n, rf, md, f, gc, gl, hx, hn, hc, hl, hgc, hgl, hn0, hn1, rx, rn, rc, rl, ⟨d1, d2, d3, d4, d5, d6⟩, ⟨d7, d8, d9, d10, d11, d12⟩⟩ := hC.1.opn g
  repeat' first
    | with_reducible assumption
    | with_reducible refine And.intro ?_ ?_
    | with_reducible exact vpi6 (by assumption) (by assumption)
    | with_reducible exact vpi8 (by assumption) (by assumption)
    | with_reducible exact lX1_firstPlaceOf_2 hC h0 hQ _ _ _ _ _ _ ⟨hx, hn, hc, hl, hgc, hgl, hn0, hn1, rx, rn, rc, rl, ⟨d1, d2, d3, d4, d5, d6⟩, ⟨d7, d8, d9, d10, d11, d12⟩⟩ 70 _ _ _ (by first | decide | assumption) (by first | decide | exact n12 (by assumption) | exact n60 (by assumption)) (by first | decide | omega) (by first | decide | omega)
    | with_reducible refine sX0_matchesR (by first | assumption | exact hgc _ _ (by assumption) | exact hgl _ _ (by assumption) | exact isR.ext (by assumption) (by assumption)) (by first | assumption | exact hgc _ _ (by assumption) | exact hgl _ _ (by assumption) | exact isR.ext (by assumption) (by assumption)) ?_
    | with_reducible refine sX0_matchesN (by first | assumption | exact hgc _ _ (by assumption) | exact hgl _ _ (by assumption) | exact isR.ext (by assumption) (by assumption)) ?_
    | with_reducible refine go_R (by first | assumption | exact hgc _ _ (by assumption) | exact hgl _ _ (by assumption) | exact isR.ext (by assumption) (by assumption)) ?_
    | with_reducible exact hQ _
    | simp only [eX1_firstPlaceOf_0, eX1_firstPlaceOf_1, eX1_firstPlaceOf_3, eX1_firstPlaceOf_3N, eX1_firstPlaceOf_4, eX1_firstPlaceOf_7, eX1_firstPlaceOf_10, eX1_firstPlaceOf_10N, eX1_firstPlaceOf_11, eX1_firstPlaceOf_11N, eX1_firstPlaceOf_12, eX1_firstPlaceOf_15, eX1_firstPlaceOf_16, eX1_firstPlaceOf_17R, eX1_firstPlaceOf_17N, eX1_firstPlaceOf_20, eX1_firstPlaceOf_23, eX1_firstPlaceOf_24, eX1_firstPlaceOf_25, eX1_firstPlaceOf_28, eX1_firstPlaceOf_31, eX1_firstPlaceOf_32, rx, rn, rc, rl, hx, hn, hc, hl, d1, d2, d3, d4, d5, d6, d7, d8, d9, d10, d11, d12, rd_n, upw_n, ite_le, n45, n54, true_or, or_true, false_or, or_false, false_and, and_false, kx_l, kx_r, go_s, gl_s, gi_s, gb_s2, gb_s3, gq_s, wt_nil, wt_int, wt_long, wt_ref, wt_null, nl_int, nl_long, nl_ref, nl_null, nl_none, rf_n, rf_s, rf_st, tl_s, tl_n, g0, gS, ex1, nb_b, nb_0, nb_1, nf_i, nf_l, nf_ra, nf_ro, nf_na, nf_no, nf_b0, nf_z0, t45_4, t45_5, true_and, and_true, List.set_cons_zero, List.set_cons_succ, List.length_cons, List.length_nil, rd_s, upw_s, ne_eq, not_false_eq_true, Nat.zero_add, Nat.add_zero]
    | split
    | with_reducible intro _
    | omega
set_option maxHeartbeats 4000000 in
theorem lX1_lastPlaceOf_7 {a0 : Nat} (hC : CC g w0 x nA cA lA kn w) (h0 : isR w a0) (hQ : ∀ v : Int32, Q (.inl (some (.int v))) w) : ∀ (n rf md : Int32) (f : Nat → Int64) (gc gl : Nat → Option Nat), RO5 g w x nA cA lA n rf kn md f gc gl → ∀ (d : Nat) (i2 : Int32) (k m : Nat), i2 < n → i2.toInt + 1 ≤ (d : Int) → k ≤ 0 → m ≤ 0 → WP (MX1_lastPlaceOf g) Q (7, [some (.ref x), some (.ref a0), some (.int i2)], [], w, k, m) := by
  rintro n rf md f gc gl ⟨hx, hn, hc, hl, hgc, hgl, hn0, hn1, rx, rn, rc, rl, ⟨d1, d2, d3, d4, d5, d6⟩, ⟨d7, d8, d9, d10, d11, d12⟩⟩ d
  induction d with
  | zero =>
    intro i2 k m k0 hm hk hs
    rw [eX1_lastPlaceOf_7]
    repeat' first
      | with_reducible assumption
      | with_reducible refine And.intro ?_ ?_
      | with_reducible exact vpi6 (by assumption) (by assumption)
      | with_reducible exact vpi8 (by assumption) (by assumption)
      | with_reducible exact (id_z (by assumption) (by assumption)).elim
      | with_reducible exact vpi12 (by assumption) (by assumption) (by assumption)
      | with_reducible refine sX0_matchesR (by first | assumption | exact hgc _ _ (by assumption) | exact hgl _ _ (by assumption) | exact isR.ext (by assumption) (by assumption)) (by first | assumption | exact hgc _ _ (by assumption) | exact hgl _ _ (by assumption) | exact isR.ext (by assumption) (by assumption)) ?_
      | with_reducible refine sX0_matchesN (by first | assumption | exact hgc _ _ (by assumption) | exact hgl _ _ (by assumption) | exact isR.ext (by assumption) (by assumption)) ?_
      | with_reducible refine go_R (by first | assumption | exact hgc _ _ (by assumption) | exact hgl _ _ (by assumption) | exact isR.ext (by assumption) (by assumption)) ?_
      | with_reducible exact hQ _
      | simp only [eX1_lastPlaceOf_0, eX1_lastPlaceOf_0N, eX1_lastPlaceOf_1, eX1_lastPlaceOf_4, eX1_lastPlaceOf_5, eX1_lastPlaceOf_6, eX1_lastPlaceOf_8, eX1_lastPlaceOf_11, eX1_lastPlaceOf_11N, eX1_lastPlaceOf_12, eX1_lastPlaceOf_12N, eX1_lastPlaceOf_13, eX1_lastPlaceOf_16, eX1_lastPlaceOf_17, eX1_lastPlaceOf_18R, eX1_lastPlaceOf_18N, eX1_lastPlaceOf_21, eX1_lastPlaceOf_24, eX1_lastPlaceOf_25, eX1_lastPlaceOf_26, eX1_lastPlaceOf_29, eX1_lastPlaceOf_32, eX1_lastPlaceOf_33, rx, rn, rc, rl, hx, hn, hc, hl, d1, d2, d3, d4, d5, d6, d7, d8, d9, d10, d11, d12, rd_n, upw_n, ite_le, n45, n54, true_or, or_true, false_or, or_false, false_and, and_false, kx_l, kx_r, go_s, gl_s, gi_s, gb_s2, gb_s3, gq_s, wt_nil, wt_int, wt_long, wt_ref, wt_null, nl_int, nl_long, nl_ref, nl_null, nl_none, rf_n, rf_s, rf_st, tl_s, tl_n, g0, gS, ex1, nb_b, nb_0, nb_1, nf_i, nf_l, nf_ra, nf_ro, nf_na, nf_no, nf_b0, nf_z0, t45_4, t45_5, true_and, and_true, List.set_cons_zero, List.set_cons_succ, List.length_cons, List.length_nil, rd_s, upw_s, ne_eq, not_false_eq_true, Nat.zero_add, Nat.add_zero]
      | split
      | with_reducible intro _
      | omega
  | succ d ih =>
    intro i2 k m k0 hm hk hs
    rw [eX1_lastPlaceOf_7]
    repeat' first
      | with_reducible assumption
      | with_reducible refine And.intro ?_ ?_
      | with_reducible exact vpi6 (by assumption) (by assumption)
      | with_reducible exact vpi8 (by assumption) (by assumption)
      | with_reducible exact ih _ _ _ (id_p (by assumption) (by assumption)) (id_s (by assumption) (by assumption)) (by first | assumption | omega) (by first | assumption | omega)
      | with_reducible exact vpi12 (by assumption) (by assumption) (by assumption)
      | with_reducible refine sX0_matchesR (by first | assumption | exact hgc _ _ (by assumption) | exact hgl _ _ (by assumption) | exact isR.ext (by assumption) (by assumption)) (by first | assumption | exact hgc _ _ (by assumption) | exact hgl _ _ (by assumption) | exact isR.ext (by assumption) (by assumption)) ?_
      | with_reducible refine sX0_matchesN (by first | assumption | exact hgc _ _ (by assumption) | exact hgl _ _ (by assumption) | exact isR.ext (by assumption) (by assumption)) ?_
      | with_reducible refine go_R (by first | assumption | exact hgc _ _ (by assumption) | exact hgl _ _ (by assumption) | exact isR.ext (by assumption) (by assumption)) ?_
      | with_reducible exact hQ _
      | simp only [eX1_lastPlaceOf_0, eX1_lastPlaceOf_0N, eX1_lastPlaceOf_1, eX1_lastPlaceOf_4, eX1_lastPlaceOf_5, eX1_lastPlaceOf_6, eX1_lastPlaceOf_8, eX1_lastPlaceOf_11, eX1_lastPlaceOf_11N, eX1_lastPlaceOf_12, eX1_lastPlaceOf_12N, eX1_lastPlaceOf_13, eX1_lastPlaceOf_16, eX1_lastPlaceOf_17, eX1_lastPlaceOf_18R, eX1_lastPlaceOf_18N, eX1_lastPlaceOf_21, eX1_lastPlaceOf_24, eX1_lastPlaceOf_25, eX1_lastPlaceOf_26, eX1_lastPlaceOf_29, eX1_lastPlaceOf_32, eX1_lastPlaceOf_33, rx, rn, rc, rl, hx, hn, hc, hl, d1, d2, d3, d4, d5, d6, d7, d8, d9, d10, d11, d12, rd_n, upw_n, ite_le, n45, n54, true_or, or_true, false_or, or_false, false_and, and_false, kx_l, kx_r, go_s, gl_s, gi_s, gb_s2, gb_s3, gq_s, wt_nil, wt_int, wt_long, wt_ref, wt_null, nl_int, nl_long, nl_ref, nl_null, nl_none, rf_n, rf_s, rf_st, tl_s, tl_n, g0, gS, ex1, nb_b, nb_0, nb_1, nf_i, nf_l, nf_ra, nf_ro, nf_na, nf_no, nf_b0, nf_z0, t45_4, t45_5, true_and, and_true, List.set_cons_zero, List.set_cons_succ, List.length_cons, List.length_nil, rd_s, upw_s, ne_eq, not_false_eq_true, Nat.zero_add, Nat.add_zero]
      | split
      | with_reducible intro _
      | omega
set_option maxHeartbeats 4000000 in
theorem sX1_lastPlaceOf {a0 : Nat} (hC : CC g w0 x nA cA lA kn w) (h0 : isR w a0) (hQ : ∀ v : Int32, Q (.inl (some (.int v))) w) : WP (MX1_lastPlaceOf g) Q (0, [some (.ref x), some (.ref a0), none], [], w, 0, 0) := by
  obtain ⟨n, rf, md, f, gc, gl, hx, hn, hc, hl, hgc, hgl, hn0, hn1, rx, rn, rc, rl, ⟨d1, d2, d3, d4, d5, d6⟩, ⟨d7, d8, d9, d10, d11, d12⟩⟩ := hC.1.opn g
  repeat' first
    | with_reducible assumption
    | with_reducible refine And.intro ?_ ?_
    | with_reducible exact vpi6 (by assumption) (by assumption)
    | with_reducible exact vpi8 (by assumption) (by assumption)
    | with_reducible exact lX1_lastPlaceOf_7 hC h0 hQ _ _ _ _ _ _ ⟨hx, hn, hc, hl, hgc, hgl, hn0, hn1, rx, rn, rc, rl, ⟨d1, d2, d3, d4, d5, d6⟩, ⟨d7, d8, d9, d10, d11, d12⟩⟩ 70 _ _ _ (id_e (by assumption) (by assumption)) (id_m (by assumption) (by assumption)) (by first | decide | omega) (by first | decide | omega)
    | with_reducible refine sX0_matchesR (by first | assumption | exact hgc _ _ (by assumption) | exact hgl _ _ (by assumption) | exact isR.ext (by assumption) (by assumption)) (by first | assumption | exact hgc _ _ (by assumption) | exact hgl _ _ (by assumption) | exact isR.ext (by assumption) (by assumption)) ?_
    | with_reducible refine sX0_matchesN (by first | assumption | exact hgc _ _ (by assumption) | exact hgl _ _ (by assumption) | exact isR.ext (by assumption) (by assumption)) ?_
    | with_reducible refine go_R (by first | assumption | exact hgc _ _ (by assumption) | exact hgl _ _ (by assumption) | exact isR.ext (by assumption) (by assumption)) ?_
    | with_reducible exact hQ _
    | simp only [eX1_lastPlaceOf_0, eX1_lastPlaceOf_0N, eX1_lastPlaceOf_1, eX1_lastPlaceOf_4, eX1_lastPlaceOf_5, eX1_lastPlaceOf_6, eX1_lastPlaceOf_8, eX1_lastPlaceOf_11, eX1_lastPlaceOf_11N, eX1_lastPlaceOf_12, eX1_lastPlaceOf_12N, eX1_lastPlaceOf_13, eX1_lastPlaceOf_16, eX1_lastPlaceOf_17, eX1_lastPlaceOf_18R, eX1_lastPlaceOf_18N, eX1_lastPlaceOf_21, eX1_lastPlaceOf_24, eX1_lastPlaceOf_25, eX1_lastPlaceOf_26, eX1_lastPlaceOf_29, eX1_lastPlaceOf_32, eX1_lastPlaceOf_33, rx, rn, rc, rl, hx, hn, hc, hl, d1, d2, d3, d4, d5, d6, d7, d8, d9, d10, d11, d12, rd_n, upw_n, ite_le, n45, n54, true_or, or_true, false_or, or_false, false_and, and_false, kx_l, kx_r, go_s, gl_s, gi_s, gb_s2, gb_s3, gq_s, wt_nil, wt_int, wt_long, wt_ref, wt_null, nl_int, nl_long, nl_ref, nl_null, nl_none, rf_n, rf_s, rf_st, tl_s, tl_n, g0, gS, ex1, nb_b, nb_0, nb_1, nf_i, nf_l, nf_ra, nf_ro, nf_na, nf_no, nf_b0, nf_z0, t45_4, t45_5, true_and, and_true, List.set_cons_zero, List.set_cons_succ, List.length_cons, List.length_nil, rd_s, upw_s, ne_eq, not_false_eq_true, Nat.zero_add, Nat.add_zero]
    | split
    | with_reducible intro _
    | omega
set_option maxHeartbeats 4000000 in
theorem lX1_timesLaid_4 {a0 : Nat} (hC : CC g w0 x nA cA lA kn w) (h0 : isR w a0) (hQ : ∀ v : Int32, Q (.inl (some (.int v))) w) : ∀ (n rf md : Int32) (f : Nat → Int64) (gc gl : Nat → Option Nat), RO5 g w x nA cA lA n rf kn md f gc gl → ∀ (d : Nat) (i2 : Int32) (i3 : Int32) (k m : Nat), ¬ i3 < 0 → (n : Int32).toInt - i3.toInt ≤ (d : Int) → k ≤ 0 → m ≤ 0 → WP (MX1_timesLaid g) Q (4, [some (.ref x), some (.ref a0), some (.int i2), some (.int i3)], [], w, k, m) := by
  rintro n rf md f gc gl ⟨hx, hn, hc, hl, hgc, hgl, hn0, hn1, rx, rn, rc, rl, ⟨d1, d2, d3, d4, d5, d6⟩, ⟨d7, d8, d9, d10, d11, d12⟩⟩ d
  induction d with
  | zero =>
    intro i2 i3 k m z0 hm hk hs
    rw [eX1_timesLaid_4]
    repeat' first
      | with_reducible assumption
      | with_reducible refine And.intro ?_ ?_
      | with_reducible exact vpi6 (by assumption) (by assumption)
      | with_reducible exact vpi8 (by assumption) (by assumption)
      | with_reducible exact (ic_z (by assumption) (by assumption)).elim
      | with_reducible exact vpi12 (by assumption) (by assumption) (by assumption)
      | with_reducible refine sX0_matchesR (by first | assumption | exact hgc _ _ (by assumption) | exact hgl _ _ (by assumption) | exact isR.ext (by assumption) (by assumption)) (by first | assumption | exact hgc _ _ (by assumption) | exact hgl _ _ (by assumption) | exact isR.ext (by assumption) (by assumption)) ?_
      | with_reducible refine sX0_matchesN (by first | assumption | exact hgc _ _ (by assumption) | exact hgl _ _ (by assumption) | exact isR.ext (by assumption) (by assumption)) ?_
      | with_reducible refine sX1_asNumber ?_
      | with_reducible refine go_R (by first | assumption | exact hgc _ _ (by assumption) | exact hgl _ _ (by assumption) | exact isR.ext (by assumption) (by assumption)) ?_
      | with_reducible exact hQ _
      | simp only [eX1_timesLaid_0, eX1_timesLaid_1, eX1_timesLaid_2, eX1_timesLaid_3, eX1_timesLaid_5, eX1_timesLaid_5N, eX1_timesLaid_6, eX1_timesLaid_9, eX1_timesLaid_12, eX1_timesLaid_13, eX1_timesLaid_13N, eX1_timesLaid_14, eX1_timesLaid_14N, eX1_timesLaid_15, eX1_timesLaid_18, eX1_timesLaid_19, eX1_timesLaid_20R, eX1_timesLaid_20N, eX1_timesLaid_23, eX1_timesLaid_26, eX1_timesLaid_27, eX1_timesLaid_28, eX1_timesLaid_31, eX1_timesLaid_34, eX1_timesLaid_35, rx, rn, rc, rl, hx, hn, hc, hl, d1, d2, d3, d4, d5, d6, d7, d8, d9, d10, d11, d12, rd_n, upw_n, ite_le, n45, n54, true_or, or_true, false_or, or_false, false_and, and_false, kx_l, kx_r, go_s, gl_s, gi_s, gb_s2, gb_s3, gq_s, wt_nil, wt_int, wt_long, wt_ref, wt_null, nl_int, nl_long, nl_ref, nl_null, nl_none, rf_n, rf_s, rf_st, tl_s, tl_n, g0, gS, ex1, nb_b, nb_0, nb_1, nf_i, nf_l, nf_ra, nf_ro, nf_na, nf_no, nf_b0, nf_z0, t45_4, t45_5, true_and, and_true, List.set_cons_zero, List.set_cons_succ, List.length_cons, List.length_nil, rd_s, upw_s, ne_eq, not_false_eq_true, Nat.zero_add, Nat.add_zero]
      | split
      | with_reducible intro _
      | omega
  | succ d ih =>
    intro i2 i3 k m z0 hm hk hs
    rw [eX1_timesLaid_4]
    repeat' first
      | with_reducible assumption
      | with_reducible refine And.intro ?_ ?_
      | with_reducible exact vpi6 (by assumption) (by assumption)
      | with_reducible exact vpi8 (by assumption) (by assumption)
      | with_reducible exact ih _ _ _ _ (ic_p (by assumption) (by assumption)) (ic_s (by assumption) (by assumption)) (by first | assumption | omega) (by first | assumption | omega)
      | with_reducible exact vpi12 (by assumption) (by assumption) (by assumption)
      | with_reducible refine sX0_matchesR (by first | assumption | exact hgc _ _ (by assumption) | exact hgl _ _ (by assumption) | exact isR.ext (by assumption) (by assumption)) (by first | assumption | exact hgc _ _ (by assumption) | exact hgl _ _ (by assumption) | exact isR.ext (by assumption) (by assumption)) ?_
      | with_reducible refine sX0_matchesN (by first | assumption | exact hgc _ _ (by assumption) | exact hgl _ _ (by assumption) | exact isR.ext (by assumption) (by assumption)) ?_
      | with_reducible refine sX1_asNumber ?_
      | with_reducible refine go_R (by first | assumption | exact hgc _ _ (by assumption) | exact hgl _ _ (by assumption) | exact isR.ext (by assumption) (by assumption)) ?_
      | with_reducible exact hQ _
      | simp only [eX1_timesLaid_0, eX1_timesLaid_1, eX1_timesLaid_2, eX1_timesLaid_3, eX1_timesLaid_5, eX1_timesLaid_5N, eX1_timesLaid_6, eX1_timesLaid_9, eX1_timesLaid_12, eX1_timesLaid_13, eX1_timesLaid_13N, eX1_timesLaid_14, eX1_timesLaid_14N, eX1_timesLaid_15, eX1_timesLaid_18, eX1_timesLaid_19, eX1_timesLaid_20R, eX1_timesLaid_20N, eX1_timesLaid_23, eX1_timesLaid_26, eX1_timesLaid_27, eX1_timesLaid_28, eX1_timesLaid_31, eX1_timesLaid_34, eX1_timesLaid_35, rx, rn, rc, rl, hx, hn, hc, hl, d1, d2, d3, d4, d5, d6, d7, d8, d9, d10, d11, d12, rd_n, upw_n, ite_le, n45, n54, true_or, or_true, false_or, or_false, false_and, and_false, kx_l, kx_r, go_s, gl_s, gi_s, gb_s2, gb_s3, gq_s, wt_nil, wt_int, wt_long, wt_ref, wt_null, nl_int, nl_long, nl_ref, nl_null, nl_none, rf_n, rf_s, rf_st, tl_s, tl_n, g0, gS, ex1, nb_b, nb_0, nb_1, nf_i, nf_l, nf_ra, nf_ro, nf_na, nf_no, nf_b0, nf_z0, t45_4, t45_5, true_and, and_true, List.set_cons_zero, List.set_cons_succ, List.length_cons, List.length_nil, rd_s, upw_s, ne_eq, not_false_eq_true, Nat.zero_add, Nat.add_zero]
      | split
      | with_reducible intro _
      | omega
set_option maxHeartbeats 4000000 in
theorem sX1_timesLaid {a0 : Nat} (hC : CC g w0 x nA cA lA kn w) (h0 : isR w a0) (hQ : ∀ v : Int32, Q (.inl (some (.int v))) w) : WP (MX1_timesLaid g) Q (0, [some (.ref x), some (.ref a0), none, none], [], w, 0, 0) := by
  obtain ⟨n, rf, md, f, gc, gl, hx, hn, hc, hl, hgc, hgl, hn0, hn1, rx, rn, rc, rl, ⟨d1, d2, d3, d4, d5, d6⟩, ⟨d7, d8, d9, d10, d11, d12⟩⟩ := hC.1.opn g
  repeat' first
    | with_reducible assumption
    | with_reducible refine And.intro ?_ ?_
    | with_reducible exact vpi6 (by assumption) (by assumption)
    | with_reducible exact vpi8 (by assumption) (by assumption)
    | with_reducible exact lX1_timesLaid_4 hC h0 hQ _ _ _ _ _ _ ⟨hx, hn, hc, hl, hgc, hgl, hn0, hn1, rx, rn, rc, rl, ⟨d1, d2, d3, d4, d5, d6⟩, ⟨d7, d8, d9, d10, d11, d12⟩⟩ 70 _ _ _ _ (by first | decide | assumption) (by first | decide | exact n12 (by assumption) | exact n60 (by assumption)) (by first | decide | omega) (by first | decide | omega)
    | with_reducible refine sX0_matchesR (by first | assumption | exact hgc _ _ (by assumption) | exact hgl _ _ (by assumption) | exact isR.ext (by assumption) (by assumption)) (by first | assumption | exact hgc _ _ (by assumption) | exact hgl _ _ (by assumption) | exact isR.ext (by assumption) (by assumption)) ?_
    | with_reducible refine sX0_matchesN (by first | assumption | exact hgc _ _ (by assumption) | exact hgl _ _ (by assumption) | exact isR.ext (by assumption) (by assumption)) ?_
    | with_reducible refine sX1_asNumber ?_
    | with_reducible refine go_R (by first | assumption | exact hgc _ _ (by assumption) | exact hgl _ _ (by assumption) | exact isR.ext (by assumption) (by assumption)) ?_
    | with_reducible exact hQ _
    | simp only [eX1_timesLaid_0, eX1_timesLaid_1, eX1_timesLaid_2, eX1_timesLaid_3, eX1_timesLaid_5, eX1_timesLaid_5N, eX1_timesLaid_6, eX1_timesLaid_9, eX1_timesLaid_12, eX1_timesLaid_13, eX1_timesLaid_13N, eX1_timesLaid_14, eX1_timesLaid_14N, eX1_timesLaid_15, eX1_timesLaid_18, eX1_timesLaid_19, eX1_timesLaid_20R, eX1_timesLaid_20N, eX1_timesLaid_23, eX1_timesLaid_26, eX1_timesLaid_27, eX1_timesLaid_28, eX1_timesLaid_31, eX1_timesLaid_34, eX1_timesLaid_35, rx, rn, rc, rl, hx, hn, hc, hl, d1, d2, d3, d4, d5, d6, d7, d8, d9, d10, d11, d12, rd_n, upw_n, ite_le, n45, n54, true_or, or_true, false_or, or_false, false_and, and_false, kx_l, kx_r, go_s, gl_s, gi_s, gb_s2, gb_s3, gq_s, wt_nil, wt_int, wt_long, wt_ref, wt_null, nl_int, nl_long, nl_ref, nl_null, nl_none, rf_n, rf_s, rf_st, tl_s, tl_n, g0, gS, ex1, nb_b, nb_0, nb_1, nf_i, nf_l, nf_ra, nf_ro, nf_na, nf_no, nf_b0, nf_z0, t45_4, t45_5, true_and, and_true, List.set_cons_zero, List.set_cons_succ, List.length_cons, List.length_nil, rd_s, upw_s, ne_eq, not_false_eq_true, Nat.zero_add, Nat.add_zero]
    | split
    | with_reducible intro _
    | omega
end
end
/-! 67.22.class3.lean.txt -/
section
section
variable {g : RO} {Q : Ot → Hw → Prop} {w0 w : Hw} {x nA cA lA : Nat} {kn : Int32}
set_option maxHeartbeats 4000000 in
theorem sX1_isCounted {a0 : Nat} {a1 : Int32} {a2 : Int64} {a3 : Int32} (hC : CC g w0 x nA cA lA kn w) (h0 : isR w a0) (hQ : ∀ v : Bool, Q (.inl (some (.int (bI v)))) w) : WP (MX1_isCounted g) Q (0, [some (.ref x), some (.ref a0), some (.int a1), some (.long a2), none, some (.int a3)], [], w, 0, 0) := by
  obtain ⟨n, rf, md, f, gc, gl, hx, hn, hc, hl, hgc, hgl, hn0, hn1, rx, rn, rc, rl, ⟨d1, d2, d3, d4, d5, d6⟩, ⟨d7, d8, d9, d10, d11, d12⟩⟩ := hC.1.opn g
  have hQt : Q (.inl (some (.int 1))) w := hQ true
  have hQf : Q (.inl (some (.int 0))) w := hQ false
  rcases sw15 a3 with rfl | rfl | rfl | rfl | rfl | hsw
  · repeat' first
      | with_reducible assumption
      | with_reducible refine And.intro ?_ ?_
      | with_reducible exact vpi6 (by assumption) (by assumption)
      | with_reducible exact vpi8 (by assumption) (by assumption)
      | with_reducible refine sX0_holds (by first | assumption | exact hgc _ _ (by assumption) | exact hgl _ _ (by assumption) | exact isR.ext (by assumption) (by assumption)) ?_
      | with_reducible refine sX0_holdsAsSmall (by first | assumption | exact hgc _ _ (by assumption) | exact hgl _ _ (by assumption) | exact isR.ext (by assumption) (by assumption)) ?_
      | with_reducible refine sX0_isSettled (by first | assumption | exact hgc _ _ (by assumption) | exact hgl _ _ (by assumption) | exact isR.ext (by assumption) (by assumption)) ?_
      | with_reducible refine sX0_fitsSmall (by first | assumption | exact hgc _ _ (by assumption) | exact hgl _ _ (by assumption) | exact isR.ext (by assumption) (by assumption)) ?_
      | with_reducible refine sX1_firstPlaceOf (by first | assumption | exact CC.ext (by assumption) (by assumption)) (by first | assumption | exact hgc _ _ (by assumption) | exact hgl _ _ (by assumption) | exact isR.ext (by assumption) (by assumption)) ?_
      | with_reducible refine go_R (by first | assumption | exact hgc _ _ (by assumption) | exact hgl _ _ (by assumption) | exact isR.ext (by assumption) (by assumption)) ?_
      | with_reducible exact hQ _
      | with_reducible exact hQt
      | with_reducible exact hQf
      | simp only [eX1_isCounted_0, eX1_isCounted_2_0, eX1_isCounted_2_1, eX1_isCounted_2_2, eX1_isCounted_2_3, eX1_isCounted_2_4, eX1_isCounted_2_d6, eX1_isCounted_2_d7, eX1_isCounted_36, eX1_isCounted_36N, eX1_isCounted_37, eX1_isCounted_38, eX1_isCounted_41, eX1_isCounted_42, eX1_isCounted_42N, eX1_isCounted_43, eX1_isCounted_44, eX1_isCounted_47, eX1_isCounted_48, eX1_isCounted_48N, eX1_isCounted_49, eX1_isCounted_52, eX1_isCounted_53, eX1_isCounted_53N, eX1_isCounted_54, eX1_isCounted_57, eX1_isCounted_58, eX1_isCounted_58N, eX1_isCounted_59, eX1_isCounted_59N, eX1_isCounted_60R, eX1_isCounted_60N, eX1_isCounted_63, eX1_isCounted_64, eX1_isCounted_67, eX1_isCounted_68, eX1_isCounted_71, eX1_isCounted_72, eX1_isCounted_73, eX1_isCounted_74, rx, rn, rc, rl, hx, hn, hc, hl, d1, d2, d3, d4, d5, d6, d7, d8, d9, d10, d11, d12, rd_n, upw_n, ite_le, n45, n54, true_or, or_true, false_or, or_false, false_and, and_false, kx_l, kx_r, go_s, gl_s, gi_s, gb_s2, gb_s3, gq_s, wt_nil, wt_int, wt_long, wt_ref, wt_null, nl_int, nl_long, nl_ref, nl_null, nl_none, rf_n, rf_s, rf_st, tl_s, tl_n, g0, gS, ex1, nb_b, nb_0, nb_1, nf_i, nf_l, nf_ra, nf_ro, nf_na, nf_no, nf_b0, nf_z0, t45_4, t45_5, true_and, and_true, List.set_cons_zero, List.set_cons_succ, List.length_cons, List.length_nil, rd_s, upw_s, ne_eq, not_false_eq_true, Nat.zero_add, Nat.add_zero]
      | split
      | with_reducible intro _
      | omega
  · repeat' first
      | with_reducible assumption
      | with_reducible refine And.intro ?_ ?_
      | with_reducible exact vpi6 (by assumption) (by assumption)
      | with_reducible exact vpi8 (by assumption) (by assumption)
      | with_reducible refine sX0_holds (by first | assumption | exact hgc _ _ (by assumption) | exact hgl _ _ (by assumption) | exact isR.ext (by assumption) (by assumption)) ?_
      | with_reducible refine sX0_holdsAsSmall (by first | assumption | exact hgc _ _ (by assumption) | exact hgl _ _ (by assumption) | exact isR.ext (by assumption) (by assumption)) ?_
      | with_reducible refine sX0_isSettled (by first | assumption | exact hgc _ _ (by assumption) | exact hgl _ _ (by assumption) | exact isR.ext (by assumption) (by assumption)) ?_
      | with_reducible refine sX0_fitsSmall (by first | assumption | exact hgc _ _ (by assumption) | exact hgl _ _ (by assumption) | exact isR.ext (by assumption) (by assumption)) ?_
      | with_reducible refine sX1_firstPlaceOf (by first | assumption | exact CC.ext (by assumption) (by assumption)) (by first | assumption | exact hgc _ _ (by assumption) | exact hgl _ _ (by assumption) | exact isR.ext (by assumption) (by assumption)) ?_
      | with_reducible refine go_R (by first | assumption | exact hgc _ _ (by assumption) | exact hgl _ _ (by assumption) | exact isR.ext (by assumption) (by assumption)) ?_
      | with_reducible exact hQ _
      | with_reducible exact hQt
      | with_reducible exact hQf
      | simp only [eX1_isCounted_0, eX1_isCounted_2_0, eX1_isCounted_2_1, eX1_isCounted_2_2, eX1_isCounted_2_3, eX1_isCounted_2_4, eX1_isCounted_2_d6, eX1_isCounted_2_d7, eX1_isCounted_36, eX1_isCounted_36N, eX1_isCounted_37, eX1_isCounted_38, eX1_isCounted_41, eX1_isCounted_42, eX1_isCounted_42N, eX1_isCounted_43, eX1_isCounted_44, eX1_isCounted_47, eX1_isCounted_48, eX1_isCounted_48N, eX1_isCounted_49, eX1_isCounted_52, eX1_isCounted_53, eX1_isCounted_53N, eX1_isCounted_54, eX1_isCounted_57, eX1_isCounted_58, eX1_isCounted_58N, eX1_isCounted_59, eX1_isCounted_59N, eX1_isCounted_60R, eX1_isCounted_60N, eX1_isCounted_63, eX1_isCounted_64, eX1_isCounted_67, eX1_isCounted_68, eX1_isCounted_71, eX1_isCounted_72, eX1_isCounted_73, eX1_isCounted_74, rx, rn, rc, rl, hx, hn, hc, hl, d1, d2, d3, d4, d5, d6, d7, d8, d9, d10, d11, d12, rd_n, upw_n, ite_le, n45, n54, true_or, or_true, false_or, or_false, false_and, and_false, kx_l, kx_r, go_s, gl_s, gi_s, gb_s2, gb_s3, gq_s, wt_nil, wt_int, wt_long, wt_ref, wt_null, nl_int, nl_long, nl_ref, nl_null, nl_none, rf_n, rf_s, rf_st, tl_s, tl_n, g0, gS, ex1, nb_b, nb_0, nb_1, nf_i, nf_l, nf_ra, nf_ro, nf_na, nf_no, nf_b0, nf_z0, t45_4, t45_5, true_and, and_true, List.set_cons_zero, List.set_cons_succ, List.length_cons, List.length_nil, rd_s, upw_s, ne_eq, not_false_eq_true, Nat.zero_add, Nat.add_zero]
      | split
      | with_reducible intro _
      | omega
  · repeat' first
      | with_reducible assumption
      | with_reducible refine And.intro ?_ ?_
      | with_reducible exact vpi6 (by assumption) (by assumption)
      | with_reducible exact vpi8 (by assumption) (by assumption)
      | with_reducible refine sX0_holds (by first | assumption | exact hgc _ _ (by assumption) | exact hgl _ _ (by assumption) | exact isR.ext (by assumption) (by assumption)) ?_
      | with_reducible refine sX0_holdsAsSmall (by first | assumption | exact hgc _ _ (by assumption) | exact hgl _ _ (by assumption) | exact isR.ext (by assumption) (by assumption)) ?_
      | with_reducible refine sX0_isSettled (by first | assumption | exact hgc _ _ (by assumption) | exact hgl _ _ (by assumption) | exact isR.ext (by assumption) (by assumption)) ?_
      | with_reducible refine sX0_fitsSmall (by first | assumption | exact hgc _ _ (by assumption) | exact hgl _ _ (by assumption) | exact isR.ext (by assumption) (by assumption)) ?_
      | with_reducible refine sX1_firstPlaceOf (by first | assumption | exact CC.ext (by assumption) (by assumption)) (by first | assumption | exact hgc _ _ (by assumption) | exact hgl _ _ (by assumption) | exact isR.ext (by assumption) (by assumption)) ?_
      | with_reducible refine go_R (by first | assumption | exact hgc _ _ (by assumption) | exact hgl _ _ (by assumption) | exact isR.ext (by assumption) (by assumption)) ?_
      | with_reducible exact hQ _
      | with_reducible exact hQt
      | with_reducible exact hQf
      | simp only [eX1_isCounted_0, eX1_isCounted_2_0, eX1_isCounted_2_1, eX1_isCounted_2_2, eX1_isCounted_2_3, eX1_isCounted_2_4, eX1_isCounted_2_d6, eX1_isCounted_2_d7, eX1_isCounted_36, eX1_isCounted_36N, eX1_isCounted_37, eX1_isCounted_38, eX1_isCounted_41, eX1_isCounted_42, eX1_isCounted_42N, eX1_isCounted_43, eX1_isCounted_44, eX1_isCounted_47, eX1_isCounted_48, eX1_isCounted_48N, eX1_isCounted_49, eX1_isCounted_52, eX1_isCounted_53, eX1_isCounted_53N, eX1_isCounted_54, eX1_isCounted_57, eX1_isCounted_58, eX1_isCounted_58N, eX1_isCounted_59, eX1_isCounted_59N, eX1_isCounted_60R, eX1_isCounted_60N, eX1_isCounted_63, eX1_isCounted_64, eX1_isCounted_67, eX1_isCounted_68, eX1_isCounted_71, eX1_isCounted_72, eX1_isCounted_73, eX1_isCounted_74, rx, rn, rc, rl, hx, hn, hc, hl, d1, d2, d3, d4, d5, d6, d7, d8, d9, d10, d11, d12, rd_n, upw_n, ite_le, n45, n54, true_or, or_true, false_or, or_false, false_and, and_false, kx_l, kx_r, go_s, gl_s, gi_s, gb_s2, gb_s3, gq_s, wt_nil, wt_int, wt_long, wt_ref, wt_null, nl_int, nl_long, nl_ref, nl_null, nl_none, rf_n, rf_s, rf_st, tl_s, tl_n, g0, gS, ex1, nb_b, nb_0, nb_1, nf_i, nf_l, nf_ra, nf_ro, nf_na, nf_no, nf_b0, nf_z0, t45_4, t45_5, true_and, and_true, List.set_cons_zero, List.set_cons_succ, List.length_cons, List.length_nil, rd_s, upw_s, ne_eq, not_false_eq_true, Nat.zero_add, Nat.add_zero]
      | split
      | with_reducible intro _
      | omega
  · repeat' first
      | with_reducible assumption
      | with_reducible refine And.intro ?_ ?_
      | with_reducible exact vpi6 (by assumption) (by assumption)
      | with_reducible exact vpi8 (by assumption) (by assumption)
      | with_reducible refine sX0_holds (by first | assumption | exact hgc _ _ (by assumption) | exact hgl _ _ (by assumption) | exact isR.ext (by assumption) (by assumption)) ?_
      | with_reducible refine sX0_holdsAsSmall (by first | assumption | exact hgc _ _ (by assumption) | exact hgl _ _ (by assumption) | exact isR.ext (by assumption) (by assumption)) ?_
      | with_reducible refine sX0_isSettled (by first | assumption | exact hgc _ _ (by assumption) | exact hgl _ _ (by assumption) | exact isR.ext (by assumption) (by assumption)) ?_
      | with_reducible refine sX0_fitsSmall (by first | assumption | exact hgc _ _ (by assumption) | exact hgl _ _ (by assumption) | exact isR.ext (by assumption) (by assumption)) ?_
      | with_reducible refine sX1_firstPlaceOf (by first | assumption | exact CC.ext (by assumption) (by assumption)) (by first | assumption | exact hgc _ _ (by assumption) | exact hgl _ _ (by assumption) | exact isR.ext (by assumption) (by assumption)) ?_
      | with_reducible refine go_R (by first | assumption | exact hgc _ _ (by assumption) | exact hgl _ _ (by assumption) | exact isR.ext (by assumption) (by assumption)) ?_
      | with_reducible exact hQ _
      | with_reducible exact hQt
      | with_reducible exact hQf
      | simp only [eX1_isCounted_0, eX1_isCounted_2_0, eX1_isCounted_2_1, eX1_isCounted_2_2, eX1_isCounted_2_3, eX1_isCounted_2_4, eX1_isCounted_2_d6, eX1_isCounted_2_d7, eX1_isCounted_36, eX1_isCounted_36N, eX1_isCounted_37, eX1_isCounted_38, eX1_isCounted_41, eX1_isCounted_42, eX1_isCounted_42N, eX1_isCounted_43, eX1_isCounted_44, eX1_isCounted_47, eX1_isCounted_48, eX1_isCounted_48N, eX1_isCounted_49, eX1_isCounted_52, eX1_isCounted_53, eX1_isCounted_53N, eX1_isCounted_54, eX1_isCounted_57, eX1_isCounted_58, eX1_isCounted_58N, eX1_isCounted_59, eX1_isCounted_59N, eX1_isCounted_60R, eX1_isCounted_60N, eX1_isCounted_63, eX1_isCounted_64, eX1_isCounted_67, eX1_isCounted_68, eX1_isCounted_71, eX1_isCounted_72, eX1_isCounted_73, eX1_isCounted_74, rx, rn, rc, rl, hx, hn, hc, hl, d1, d2, d3, d4, d5, d6, d7, d8, d9, d10, d11, d12, rd_n, upw_n, ite_le, n45, n54, true_or, or_true, false_or, or_false, false_and, and_false, kx_l, kx_r, go_s, gl_s, gi_s, gb_s2, gb_s3, gq_s, wt_nil, wt_int, wt_long, wt_ref, wt_null, nl_int, nl_long, nl_ref, nl_null, nl_none, rf_n, rf_s, rf_st, tl_s, tl_n, g0, gS, ex1, nb_b, nb_0, nb_1, nf_i, nf_l, nf_ra, nf_ro, nf_na, nf_no, nf_b0, nf_z0, t45_4, t45_5, true_and, and_true, List.set_cons_zero, List.set_cons_succ, List.length_cons, List.length_nil, rd_s, upw_s, ne_eq, not_false_eq_true, Nat.zero_add, Nat.add_zero]
      | split
      | with_reducible intro _
      | omega
  · repeat' first
      | with_reducible assumption
      | with_reducible refine And.intro ?_ ?_
      | with_reducible exact vpi6 (by assumption) (by assumption)
      | with_reducible exact vpi8 (by assumption) (by assumption)
      | with_reducible refine sX0_holds (by first | assumption | exact hgc _ _ (by assumption) | exact hgl _ _ (by assumption) | exact isR.ext (by assumption) (by assumption)) ?_
      | with_reducible refine sX0_holdsAsSmall (by first | assumption | exact hgc _ _ (by assumption) | exact hgl _ _ (by assumption) | exact isR.ext (by assumption) (by assumption)) ?_
      | with_reducible refine sX0_isSettled (by first | assumption | exact hgc _ _ (by assumption) | exact hgl _ _ (by assumption) | exact isR.ext (by assumption) (by assumption)) ?_
      | with_reducible refine sX0_fitsSmall (by first | assumption | exact hgc _ _ (by assumption) | exact hgl _ _ (by assumption) | exact isR.ext (by assumption) (by assumption)) ?_
      | with_reducible refine sX1_firstPlaceOf (by first | assumption | exact CC.ext (by assumption) (by assumption)) (by first | assumption | exact hgc _ _ (by assumption) | exact hgl _ _ (by assumption) | exact isR.ext (by assumption) (by assumption)) ?_
      | with_reducible refine go_R (by first | assumption | exact hgc _ _ (by assumption) | exact hgl _ _ (by assumption) | exact isR.ext (by assumption) (by assumption)) ?_
      | with_reducible exact hQ _
      | with_reducible exact hQt
      | with_reducible exact hQf
      | simp only [eX1_isCounted_0, eX1_isCounted_2_0, eX1_isCounted_2_1, eX1_isCounted_2_2, eX1_isCounted_2_3, eX1_isCounted_2_4, eX1_isCounted_2_d6, eX1_isCounted_2_d7, eX1_isCounted_36, eX1_isCounted_36N, eX1_isCounted_37, eX1_isCounted_38, eX1_isCounted_41, eX1_isCounted_42, eX1_isCounted_42N, eX1_isCounted_43, eX1_isCounted_44, eX1_isCounted_47, eX1_isCounted_48, eX1_isCounted_48N, eX1_isCounted_49, eX1_isCounted_52, eX1_isCounted_53, eX1_isCounted_53N, eX1_isCounted_54, eX1_isCounted_57, eX1_isCounted_58, eX1_isCounted_58N, eX1_isCounted_59, eX1_isCounted_59N, eX1_isCounted_60R, eX1_isCounted_60N, eX1_isCounted_63, eX1_isCounted_64, eX1_isCounted_67, eX1_isCounted_68, eX1_isCounted_71, eX1_isCounted_72, eX1_isCounted_73, eX1_isCounted_74, rx, rn, rc, rl, hx, hn, hc, hl, d1, d2, d3, d4, d5, d6, d7, d8, d9, d10, d11, d12, rd_n, upw_n, ite_le, n45, n54, true_or, or_true, false_or, or_false, false_and, and_false, kx_l, kx_r, go_s, gl_s, gi_s, gb_s2, gb_s3, gq_s, wt_nil, wt_int, wt_long, wt_ref, wt_null, nl_int, nl_long, nl_ref, nl_null, nl_none, rf_n, rf_s, rf_st, tl_s, tl_n, g0, gS, ex1, nb_b, nb_0, nb_1, nf_i, nf_l, nf_ra, nf_ro, nf_na, nf_no, nf_b0, nf_z0, t45_4, t45_5, true_and, and_true, List.set_cons_zero, List.set_cons_succ, List.length_cons, List.length_nil, rd_s, upw_s, ne_eq, not_false_eq_true, Nat.zero_add, Nat.add_zero]
      | split
      | with_reducible intro _
      | omega
  · repeat' first
      | with_reducible assumption
      | with_reducible refine And.intro ?_ ?_
      | with_reducible exact vpi6 (by assumption) (by assumption)
      | with_reducible exact vpi8 (by assumption) (by assumption)
      | with_reducible refine sX0_holds (by first | assumption | exact hgc _ _ (by assumption) | exact hgl _ _ (by assumption) | exact isR.ext (by assumption) (by assumption)) ?_
      | with_reducible refine sX0_holdsAsSmall (by first | assumption | exact hgc _ _ (by assumption) | exact hgl _ _ (by assumption) | exact isR.ext (by assumption) (by assumption)) ?_
      | with_reducible refine sX0_isSettled (by first | assumption | exact hgc _ _ (by assumption) | exact hgl _ _ (by assumption) | exact isR.ext (by assumption) (by assumption)) ?_
      | with_reducible refine sX0_fitsSmall (by first | assumption | exact hgc _ _ (by assumption) | exact hgl _ _ (by assumption) | exact isR.ext (by assumption) (by assumption)) ?_
      | with_reducible refine sX1_firstPlaceOf (by first | assumption | exact CC.ext (by assumption) (by assumption)) (by first | assumption | exact hgc _ _ (by assumption) | exact hgl _ _ (by assumption) | exact isR.ext (by assumption) (by assumption)) ?_
      | with_reducible refine go_R (by first | assumption | exact hgc _ _ (by assumption) | exact hgl _ _ (by assumption) | exact isR.ext (by assumption) (by assumption)) ?_
      | with_reducible exact hQ _
      | with_reducible exact hQt
      | with_reducible exact hQf
      | simp only [eX1_isCounted_0, eX1_isCounted_2_0, eX1_isCounted_2_1, eX1_isCounted_2_2, eX1_isCounted_2_3, eX1_isCounted_2_4, eX1_isCounted_2_d6, eX1_isCounted_2_d7, eX1_isCounted_36, eX1_isCounted_36N, eX1_isCounted_37, eX1_isCounted_38, eX1_isCounted_41, eX1_isCounted_42, eX1_isCounted_42N, eX1_isCounted_43, eX1_isCounted_44, eX1_isCounted_47, eX1_isCounted_48, eX1_isCounted_48N, eX1_isCounted_49, eX1_isCounted_52, eX1_isCounted_53, eX1_isCounted_53N, eX1_isCounted_54, eX1_isCounted_57, eX1_isCounted_58, eX1_isCounted_58N, eX1_isCounted_59, eX1_isCounted_59N, eX1_isCounted_60R, eX1_isCounted_60N, eX1_isCounted_63, eX1_isCounted_64, eX1_isCounted_67, eX1_isCounted_68, eX1_isCounted_71, eX1_isCounted_72, eX1_isCounted_73, eX1_isCounted_74, rx, rn, rc, rl, hx, hn, hc, hl, d1, d2, d3, d4, d5, d6, d7, d8, d9, d10, d11, d12, rd_n, upw_n, eX1_isCounted_2_d hsw, ite_le, n45, n54, true_or, or_true, false_or, or_false, false_and, and_false, kx_l, kx_r, go_s, gl_s, gi_s, gb_s2, gb_s3, gq_s, wt_nil, wt_int, wt_long, wt_ref, wt_null, nl_int, nl_long, nl_ref, nl_null, nl_none, rf_n, rf_s, rf_st, tl_s, tl_n, g0, gS, ex1, nb_b, nb_0, nb_1, nf_i, nf_l, nf_ra, nf_ro, nf_na, nf_no, nf_b0, nf_z0, t45_4, t45_5, true_and, and_true, List.set_cons_zero, List.set_cons_succ, List.length_cons, List.length_nil, rd_s, upw_s, ne_eq, not_false_eq_true, Nat.zero_add, Nat.add_zero]
      | split
      | with_reducible intro _
      | omega
set_option maxHeartbeats 4000000 in
theorem lX1_pileCount_6 {a0 : Int64} {a1 : Int32} (hC : CC g w0 x nA cA lA kn w) (hQ : ∀ v : Int32, Q (.inl (some (.int v))) w) : ∀ (n rf md : Int32) (f : Nat → Int64) (gc gl : Nat → Option Nat), RO5 g w x nA cA lA n rf kn md f gc gl → ∀ (d : Nat) (i4 : Int32) (i5 : Int32) (i6 : Option Value) (k m : Nat), ¬ i5 < 0 → (n : Int32).toInt - i5.toInt ≤ (d : Int) → k ≤ 0 → m ≤ 0 → WP (MX1_pileCount g) Q (6, [some (.ref x), some (.long a0), none, some (.int a1), some (.int i4), some (.int i5), i6], [], w, k, m) := by
  rintro n rf md f gc gl ⟨hx, hn, hc, hl, hgc, hgl, hn0, hn1, rx, rn, rc, rl, ⟨d1, d2, d3, d4, d5, d6⟩, ⟨d7, d8, d9, d10, d11, d12⟩⟩ d
  induction d with
  | zero =>
    intro i4 i5 i6 k m z0 hm hk hs
    rw [eX1_pileCount_6]
    repeat' first
      | with_reducible assumption
      | with_reducible refine And.intro ?_ ?_
      | with_reducible exact vpi6 (by assumption) (by assumption)
      | with_reducible exact vpi8 (by assumption) (by assumption)
      | with_reducible exact (ic_z (by assumption) (by assumption)).elim
      | with_reducible exact vpi12 (by assumption) (by assumption) (by assumption)
      | with_reducible refine sX1_isCounted (by first | assumption | exact CC.ext (by assumption) (by assumption)) (by first | assumption | exact hgc _ _ (by assumption) | exact hgl _ _ (by assumption) | exact isR.ext (by assumption) (by assumption)) ?_
      | with_reducible refine sX1_asNumber ?_
      | with_reducible refine go_R (by first | assumption | exact hgc _ _ (by assumption) | exact hgl _ _ (by assumption) | exact isR.ext (by assumption) (by assumption)) ?_
      | with_reducible exact hQ _
      | simp only [eX1_pileCount_0, eX1_pileCount_1, eX1_pileCount_3, eX1_pileCount_4, eX1_pileCount_8, eX1_pileCount_8N, eX1_pileCount_9, eX1_pileCount_12, eX1_pileCount_15, eX1_pileCount_15N, eX1_pileCount_16, eX1_pileCount_19, eX1_pileCount_21, eX1_pileCount_22, eX1_pileCount_22N, eX1_pileCount_24, eX1_pileCount_24N, eX1_pileCount_26R, eX1_pileCount_26N, eX1_pileCount_29, eX1_pileCount_31, eX1_pileCount_31N, eX1_pileCount_32, eX1_pileCount_32N, eX1_pileCount_34, eX1_pileCount_36, eX1_pileCount_37, eX1_pileCount_38R, eX1_pileCount_38N, eX1_pileCount_41, eX1_pileCount_44, eX1_pileCount_45, eX1_pileCount_47, eX1_pileCount_50, eX1_pileCount_53, eX1_pileCount_55, rx, rn, rc, rl, hx, hn, hc, hl, d1, d2, d3, d4, d5, d6, d7, d8, d9, d10, d11, d12, rd_n, upw_n, ite_le, n45, n54, true_or, or_true, false_or, or_false, false_and, and_false, kx_l, kx_r, go_s, gl_s, gi_s, gb_s2, gb_s3, gq_s, wt_nil, wt_int, wt_long, wt_ref, wt_null, nl_int, nl_long, nl_ref, nl_null, nl_none, rf_n, rf_s, rf_st, tl_s, tl_n, g0, gS, ex1, nb_b, nb_0, nb_1, nf_i, nf_l, nf_ra, nf_ro, nf_na, nf_no, nf_b0, nf_z0, t45_4, t45_5, true_and, and_true, List.set_cons_zero, List.set_cons_succ, List.length_cons, List.length_nil, rd_s, upw_s, ne_eq, not_false_eq_true, Nat.zero_add, Nat.add_zero]
      | split
      | with_reducible intro _
      | omega
  | succ d ih =>
    intro i4 i5 i6 k m z0 hm hk hs
    rw [eX1_pileCount_6]
    repeat' first
      | with_reducible assumption
      | with_reducible refine And.intro ?_ ?_
      | with_reducible exact vpi6 (by assumption) (by assumption)
      | with_reducible exact vpi8 (by assumption) (by assumption)
      | with_reducible exact ih _ _ _ _ _ (ic_p (by assumption) (by assumption)) (ic_s (by assumption) (by assumption)) (by first | assumption | omega) (by first | assumption | omega)
      | with_reducible exact vpi12 (by assumption) (by assumption) (by assumption)
      | with_reducible refine sX1_isCounted (by first | assumption | exact CC.ext (by assumption) (by assumption)) (by first | assumption | exact hgc _ _ (by assumption) | exact hgl _ _ (by assumption) | exact isR.ext (by assumption) (by assumption)) ?_
      | with_reducible refine sX1_asNumber ?_
      | with_reducible refine go_R (by first | assumption | exact hgc _ _ (by assumption) | exact hgl _ _ (by assumption) | exact isR.ext (by assumption) (by assumption)) ?_
      | with_reducible exact hQ _
      | simp only [eX1_pileCount_0, eX1_pileCount_1, eX1_pileCount_3, eX1_pileCount_4, eX1_pileCount_8, eX1_pileCount_8N, eX1_pileCount_9, eX1_pileCount_12, eX1_pileCount_15, eX1_pileCount_15N, eX1_pileCount_16, eX1_pileCount_19, eX1_pileCount_21, eX1_pileCount_22, eX1_pileCount_22N, eX1_pileCount_24, eX1_pileCount_24N, eX1_pileCount_26R, eX1_pileCount_26N, eX1_pileCount_29, eX1_pileCount_31, eX1_pileCount_31N, eX1_pileCount_32, eX1_pileCount_32N, eX1_pileCount_34, eX1_pileCount_36, eX1_pileCount_37, eX1_pileCount_38R, eX1_pileCount_38N, eX1_pileCount_41, eX1_pileCount_44, eX1_pileCount_45, eX1_pileCount_47, eX1_pileCount_50, eX1_pileCount_53, eX1_pileCount_55, rx, rn, rc, rl, hx, hn, hc, hl, d1, d2, d3, d4, d5, d6, d7, d8, d9, d10, d11, d12, rd_n, upw_n, ite_le, n45, n54, true_or, or_true, false_or, or_false, false_and, and_false, kx_l, kx_r, go_s, gl_s, gi_s, gb_s2, gb_s3, gq_s, wt_nil, wt_int, wt_long, wt_ref, wt_null, nl_int, nl_long, nl_ref, nl_null, nl_none, rf_n, rf_s, rf_st, tl_s, tl_n, g0, gS, ex1, nb_b, nb_0, nb_1, nf_i, nf_l, nf_ra, nf_ro, nf_na, nf_no, nf_b0, nf_z0, t45_4, t45_5, true_and, and_true, List.set_cons_zero, List.set_cons_succ, List.length_cons, List.length_nil, rd_s, upw_s, ne_eq, not_false_eq_true, Nat.zero_add, Nat.add_zero]
      | split
      | with_reducible intro _
      | omega
set_option maxHeartbeats 4000000 in
theorem sX1_pileCount {a0 : Int64} {a1 : Int32} (hC : CC g w0 x nA cA lA kn w) (hQ : ∀ v : Int32, Q (.inl (some (.int v))) w) : WP (MX1_pileCount g) Q (0, [some (.ref x), some (.long a0), none, some (.int a1), none, none, none], [], w, 0, 0) := by
  obtain ⟨n, rf, md, f, gc, gl, hx, hn, hc, hl, hgc, hgl, hn0, hn1, rx, rn, rc, rl, ⟨d1, d2, d3, d4, d5, d6⟩, ⟨d7, d8, d9, d10, d11, d12⟩⟩ := hC.1.opn g
  repeat' first
    | with_reducible assumption
    | with_reducible refine And.intro ?_ ?_
    | with_reducible exact vpi6 (by assumption) (by assumption)
    | with_reducible exact vpi8 (by assumption) (by assumption)
    | with_reducible exact lX1_pileCount_6 hC hQ _ _ _ _ _ _ ⟨hx, hn, hc, hl, hgc, hgl, hn0, hn1, rx, rn, rc, rl, ⟨d1, d2, d3, d4, d5, d6⟩, ⟨d7, d8, d9, d10, d11, d12⟩⟩ 70 _ _ _ _ _ (by first | decide | assumption) (by first | decide | exact n12 (by assumption) | exact n60 (by assumption)) (by first | decide | omega) (by first | decide | omega)
    | with_reducible refine sX1_isCounted (by first | assumption | exact CC.ext (by assumption) (by assumption)) (by first | assumption | exact hgc _ _ (by assumption) | exact hgl _ _ (by assumption) | exact isR.ext (by assumption) (by assumption)) ?_
    | with_reducible refine sX1_asNumber ?_
    | with_reducible refine go_R (by first | assumption | exact hgc _ _ (by assumption) | exact hgl _ _ (by assumption) | exact isR.ext (by assumption) (by assumption)) ?_
    | with_reducible exact hQ _
    | simp only [eX1_pileCount_0, eX1_pileCount_1, eX1_pileCount_3, eX1_pileCount_4, eX1_pileCount_8, eX1_pileCount_8N, eX1_pileCount_9, eX1_pileCount_12, eX1_pileCount_15, eX1_pileCount_15N, eX1_pileCount_16, eX1_pileCount_19, eX1_pileCount_21, eX1_pileCount_22, eX1_pileCount_22N, eX1_pileCount_24, eX1_pileCount_24N, eX1_pileCount_26R, eX1_pileCount_26N, eX1_pileCount_29, eX1_pileCount_31, eX1_pileCount_31N, eX1_pileCount_32, eX1_pileCount_32N, eX1_pileCount_34, eX1_pileCount_36, eX1_pileCount_37, eX1_pileCount_38R, eX1_pileCount_38N, eX1_pileCount_41, eX1_pileCount_44, eX1_pileCount_45, eX1_pileCount_47, eX1_pileCount_50, eX1_pileCount_53, eX1_pileCount_55, rx, rn, rc, rl, hx, hn, hc, hl, d1, d2, d3, d4, d5, d6, d7, d8, d9, d10, d11, d12, rd_n, upw_n, ite_le, n45, n54, true_or, or_true, false_or, or_false, false_and, and_false, kx_l, kx_r, go_s, gl_s, gi_s, gb_s2, gb_s3, gq_s, wt_nil, wt_int, wt_long, wt_ref, wt_null, nl_int, nl_long, nl_ref, nl_null, nl_none, rf_n, rf_s, rf_st, tl_s, tl_n, g0, gS, ex1, nb_b, nb_0, nb_1, nf_i, nf_l, nf_ra, nf_ro, nf_na, nf_no, nf_b0, nf_z0, t45_4, t45_5, true_and, and_true, List.set_cons_zero, List.set_cons_succ, List.length_cons, List.length_nil, rd_s, upw_s, ne_eq, not_false_eq_true, Nat.zero_add, Nat.add_zero]
    | split
    | with_reducible intro _
    | omega
set_option maxHeartbeats 4000000 in
theorem sX1_houseCount {a0 : Int32} (hC : CC g w0 x nA cA lA kn w) (hQ : ∀ v : Int32, Q (.inl (some (.int v))) w) : WP (MX1_houseCount g) Q (0, [some (.ref x), some (.int a0)], [], w, 0, 0) := by
  obtain ⟨n, rf, md, f, gc, gl, hx, hn, hc, hl, hgc, hgl, hn0, hn1, rx, rn, rc, rl, ⟨d1, d2, d3, d4, d5, d6⟩, ⟨d7, d8, d9, d10, d11, d12⟩⟩ := hC.1.opn g
  rcases sw03 a0 with rfl | rfl | rfl | rfl | hsw
  · repeat' first
      | with_reducible assumption
      | with_reducible refine And.intro ?_ ?_
      | with_reducible exact vpi6 (by assumption) (by assumption)
      | with_reducible exact vpi8 (by assumption) (by assumption)
      | with_reducible refine sX1_cardsWithRange (by first | assumption | exact CC.ext (by assumption) (by assumption)) ?_
      | with_reducible refine go_R (by first | assumption | exact hgc _ _ (by assumption) | exact hgl _ _ (by assumption) | exact isR.ext (by assumption) (by assumption)) ?_
      | with_reducible exact hQ _
      | simp only [eX1_houseCount_0, eX1_houseCount_1_0, eX1_houseCount_1_1, eX1_houseCount_1_2, eX1_houseCount_1_3, eX1_houseCount_1_d4, eX1_houseCount_1_d5, eX1_houseCount_32, eX1_houseCount_32N, eX1_houseCount_33, eX1_houseCount_36, eX1_houseCount_37, eX1_houseCount_37N, eX1_houseCount_38, eX1_houseCount_41, eX1_houseCount_42, eX1_houseCount_42N, eX1_houseCount_43, eX1_houseCount_46, eX1_houseCount_47, eX1_houseCount_47N, eX1_houseCount_48, eX1_houseCount_51, eX1_houseCount_52, eX1_houseCount_52N, eX1_houseCount_53, eX1_houseCount_56, rx, rn, rc, rl, hx, hn, hc, hl, d1, d2, d3, d4, d5, d6, d7, d8, d9, d10, d11, d12, rd_n, upw_n, ite_le, n45, n54, true_or, or_true, false_or, or_false, false_and, and_false, kx_l, kx_r, go_s, gl_s, gi_s, gb_s2, gb_s3, gq_s, wt_nil, wt_int, wt_long, wt_ref, wt_null, nl_int, nl_long, nl_ref, nl_null, nl_none, rf_n, rf_s, rf_st, tl_s, tl_n, g0, gS, ex1, nb_b, nb_0, nb_1, nf_i, nf_l, nf_ra, nf_ro, nf_na, nf_no, nf_b0, nf_z0, t45_4, t45_5, true_and, and_true, List.set_cons_zero, List.set_cons_succ, List.length_cons, List.length_nil, rd_s, upw_s, ne_eq, not_false_eq_true, Nat.zero_add, Nat.add_zero]
      | split
      | with_reducible intro _
      | omega
  · repeat' first
      | with_reducible assumption
      | with_reducible refine And.intro ?_ ?_
      | with_reducible exact vpi6 (by assumption) (by assumption)
      | with_reducible exact vpi8 (by assumption) (by assumption)
      | with_reducible refine sX1_cardsWithRange (by first | assumption | exact CC.ext (by assumption) (by assumption)) ?_
      | with_reducible refine go_R (by first | assumption | exact hgc _ _ (by assumption) | exact hgl _ _ (by assumption) | exact isR.ext (by assumption) (by assumption)) ?_
      | with_reducible exact hQ _
      | simp only [eX1_houseCount_0, eX1_houseCount_1_0, eX1_houseCount_1_1, eX1_houseCount_1_2, eX1_houseCount_1_3, eX1_houseCount_1_d4, eX1_houseCount_1_d5, eX1_houseCount_32, eX1_houseCount_32N, eX1_houseCount_33, eX1_houseCount_36, eX1_houseCount_37, eX1_houseCount_37N, eX1_houseCount_38, eX1_houseCount_41, eX1_houseCount_42, eX1_houseCount_42N, eX1_houseCount_43, eX1_houseCount_46, eX1_houseCount_47, eX1_houseCount_47N, eX1_houseCount_48, eX1_houseCount_51, eX1_houseCount_52, eX1_houseCount_52N, eX1_houseCount_53, eX1_houseCount_56, rx, rn, rc, rl, hx, hn, hc, hl, d1, d2, d3, d4, d5, d6, d7, d8, d9, d10, d11, d12, rd_n, upw_n, ite_le, n45, n54, true_or, or_true, false_or, or_false, false_and, and_false, kx_l, kx_r, go_s, gl_s, gi_s, gb_s2, gb_s3, gq_s, wt_nil, wt_int, wt_long, wt_ref, wt_null, nl_int, nl_long, nl_ref, nl_null, nl_none, rf_n, rf_s, rf_st, tl_s, tl_n, g0, gS, ex1, nb_b, nb_0, nb_1, nf_i, nf_l, nf_ra, nf_ro, nf_na, nf_no, nf_b0, nf_z0, t45_4, t45_5, true_and, and_true, List.set_cons_zero, List.set_cons_succ, List.length_cons, List.length_nil, rd_s, upw_s, ne_eq, not_false_eq_true, Nat.zero_add, Nat.add_zero]
      | split
      | with_reducible intro _
      | omega
  · repeat' first
      | with_reducible assumption
      | with_reducible refine And.intro ?_ ?_
      | with_reducible exact vpi6 (by assumption) (by assumption)
      | with_reducible exact vpi8 (by assumption) (by assumption)
      | with_reducible refine sX1_cardsWithRange (by first | assumption | exact CC.ext (by assumption) (by assumption)) ?_
      | with_reducible refine go_R (by first | assumption | exact hgc _ _ (by assumption) | exact hgl _ _ (by assumption) | exact isR.ext (by assumption) (by assumption)) ?_
      | with_reducible exact hQ _
      | simp only [eX1_houseCount_0, eX1_houseCount_1_0, eX1_houseCount_1_1, eX1_houseCount_1_2, eX1_houseCount_1_3, eX1_houseCount_1_d4, eX1_houseCount_1_d5, eX1_houseCount_32, eX1_houseCount_32N, eX1_houseCount_33, eX1_houseCount_36, eX1_houseCount_37, eX1_houseCount_37N, eX1_houseCount_38, eX1_houseCount_41, eX1_houseCount_42, eX1_houseCount_42N, eX1_houseCount_43, eX1_houseCount_46, eX1_houseCount_47, eX1_houseCount_47N, eX1_houseCount_48, eX1_houseCount_51, eX1_houseCount_52, eX1_houseCount_52N, eX1_houseCount_53, eX1_houseCount_56, rx, rn, rc, rl, hx, hn, hc, hl, d1, d2, d3, d4, d5, d6, d7, d8, d9, d10, d11, d12, rd_n, upw_n, ite_le, n45, n54, true_or, or_true, false_or, or_false, false_and, and_false, kx_l, kx_r, go_s, gl_s, gi_s, gb_s2, gb_s3, gq_s, wt_nil, wt_int, wt_long, wt_ref, wt_null, nl_int, nl_long, nl_ref, nl_null, nl_none, rf_n, rf_s, rf_st, tl_s, tl_n, g0, gS, ex1, nb_b, nb_0, nb_1, nf_i, nf_l, nf_ra, nf_ro, nf_na, nf_no, nf_b0, nf_z0, t45_4, t45_5, true_and, and_true, List.set_cons_zero, List.set_cons_succ, List.length_cons, List.length_nil, rd_s, upw_s, ne_eq, not_false_eq_true, Nat.zero_add, Nat.add_zero]
      | split
      | with_reducible intro _
      | omega
  · repeat' first
      | with_reducible assumption
      | with_reducible refine And.intro ?_ ?_
      | with_reducible exact vpi6 (by assumption) (by assumption)
      | with_reducible exact vpi8 (by assumption) (by assumption)
      | with_reducible refine sX1_cardsWithRange (by first | assumption | exact CC.ext (by assumption) (by assumption)) ?_
      | with_reducible refine go_R (by first | assumption | exact hgc _ _ (by assumption) | exact hgl _ _ (by assumption) | exact isR.ext (by assumption) (by assumption)) ?_
      | with_reducible exact hQ _
      | simp only [eX1_houseCount_0, eX1_houseCount_1_0, eX1_houseCount_1_1, eX1_houseCount_1_2, eX1_houseCount_1_3, eX1_houseCount_1_d4, eX1_houseCount_1_d5, eX1_houseCount_32, eX1_houseCount_32N, eX1_houseCount_33, eX1_houseCount_36, eX1_houseCount_37, eX1_houseCount_37N, eX1_houseCount_38, eX1_houseCount_41, eX1_houseCount_42, eX1_houseCount_42N, eX1_houseCount_43, eX1_houseCount_46, eX1_houseCount_47, eX1_houseCount_47N, eX1_houseCount_48, eX1_houseCount_51, eX1_houseCount_52, eX1_houseCount_52N, eX1_houseCount_53, eX1_houseCount_56, rx, rn, rc, rl, hx, hn, hc, hl, d1, d2, d3, d4, d5, d6, d7, d8, d9, d10, d11, d12, rd_n, upw_n, ite_le, n45, n54, true_or, or_true, false_or, or_false, false_and, and_false, kx_l, kx_r, go_s, gl_s, gi_s, gb_s2, gb_s3, gq_s, wt_nil, wt_int, wt_long, wt_ref, wt_null, nl_int, nl_long, nl_ref, nl_null, nl_none, rf_n, rf_s, rf_st, tl_s, tl_n, g0, gS, ex1, nb_b, nb_0, nb_1, nf_i, nf_l, nf_ra, nf_ro, nf_na, nf_no, nf_b0, nf_z0, t45_4, t45_5, true_and, and_true, List.set_cons_zero, List.set_cons_succ, List.length_cons, List.length_nil, rd_s, upw_s, ne_eq, not_false_eq_true, Nat.zero_add, Nat.add_zero]
      | split
      | with_reducible intro _
      | omega
  · repeat' first
      | with_reducible assumption
      | with_reducible refine And.intro ?_ ?_
      | with_reducible exact vpi6 (by assumption) (by assumption)
      | with_reducible exact vpi8 (by assumption) (by assumption)
      | with_reducible refine sX1_cardsWithRange (by first | assumption | exact CC.ext (by assumption) (by assumption)) ?_
      | with_reducible refine go_R (by first | assumption | exact hgc _ _ (by assumption) | exact hgl _ _ (by assumption) | exact isR.ext (by assumption) (by assumption)) ?_
      | with_reducible exact hQ _
      | simp only [eX1_houseCount_0, eX1_houseCount_1_0, eX1_houseCount_1_1, eX1_houseCount_1_2, eX1_houseCount_1_3, eX1_houseCount_1_d4, eX1_houseCount_1_d5, eX1_houseCount_32, eX1_houseCount_32N, eX1_houseCount_33, eX1_houseCount_36, eX1_houseCount_37, eX1_houseCount_37N, eX1_houseCount_38, eX1_houseCount_41, eX1_houseCount_42, eX1_houseCount_42N, eX1_houseCount_43, eX1_houseCount_46, eX1_houseCount_47, eX1_houseCount_47N, eX1_houseCount_48, eX1_houseCount_51, eX1_houseCount_52, eX1_houseCount_52N, eX1_houseCount_53, eX1_houseCount_56, rx, rn, rc, rl, hx, hn, hc, hl, d1, d2, d3, d4, d5, d6, d7, d8, d9, d10, d11, d12, rd_n, upw_n, eX1_houseCount_1_d hsw, ite_le, n45, n54, true_or, or_true, false_or, or_false, false_and, and_false, kx_l, kx_r, go_s, gl_s, gi_s, gb_s2, gb_s3, gq_s, wt_nil, wt_int, wt_long, wt_ref, wt_null, nl_int, nl_long, nl_ref, nl_null, nl_none, rf_n, rf_s, rf_st, tl_s, tl_n, g0, gS, ex1, nb_b, nb_0, nb_1, nf_i, nf_l, nf_ra, nf_ro, nf_na, nf_no, nf_b0, nf_z0, t45_4, t45_5, true_and, and_true, List.set_cons_zero, List.set_cons_succ, List.length_cons, List.length_nil, rd_s, upw_s, ne_eq, not_false_eq_true, Nat.zero_add, Nat.add_zero]
      | split
      | with_reducible intro _
      | omega
end
end
/-! 67.22.class4.lean.txt -/
section
section
variable {g : RO} {Q : Ot → Hw → Prop} {w0 w : Hw} {x nA cA lA : Nat} {kn : Int32}
set_option maxHeartbeats 4000000 in
theorem sX1_isOuterSound {a0 : Nat} (h0 : isR w a0) (hQ : ∀ v : Bool, Q (.inl (some (.int (bI v)))) w) : WP (MX1_isOuterSound g) Q (0, [some (.ref a0)], [], w, 0, 0) := by
  have hQt : Q (.inl (some (.int 1))) w := hQ true
  have hQf : Q (.inl (some (.int 0))) w := hQ false
  repeat' first
    | with_reducible assumption
    | with_reducible refine And.intro ?_ ?_
    | with_reducible exact vpi6 (by assumption) (by assumption)
    | with_reducible exact vpi8 (by assumption) (by assumption)
    | with_reducible refine sX0_holds (by first | assumption | exact hgc _ _ (by assumption) | exact hgl _ _ (by assumption) | exact isR.ext (by assumption) (by assumption)) ?_
    | with_reducible refine go_R (by assumption) ?_
    | with_reducible exact hQ _
    | with_reducible exact hQt
    | with_reducible exact hQf
    | simp only [eX1_isOuterSound_0, eX1_isOuterSound_0N, eX1_isOuterSound_1, eX1_isOuterSound_4, eX1_isOuterSound_7, eX1_isOuterSound_8, eX1_isOuterSound_11, eX1_isOuterSound_11N, eX1_isOuterSound_12, eX1_isOuterSound_12N, eX1_isOuterSound_13, eX1_isOuterSound_16, eX1_isOuterSound_17, eX1_isOuterSound_18, eX1_isOuterSound_21, eX1_isOuterSound_24, eX1_isOuterSound_24N, eX1_isOuterSound_25, eX1_isOuterSound_28, eX1_isOuterSound_31, eX1_isOuterSound_32, eX1_isOuterSound_35, eX1_isOuterSound_35N, eX1_isOuterSound_36, eX1_isOuterSound_36N, eX1_isOuterSound_37, eX1_isOuterSound_40, eX1_isOuterSound_41, eX1_isOuterSound_42, eX1_isOuterSound_45, eX1_isOuterSound_48, eX1_isOuterSound_49, eX1_isOuterSound_52, eX1_isOuterSound_53, ite_le, n45, n54, true_or, or_true, false_or, or_false, false_and, and_false, kx_l, kx_r, go_s, gl_s, gi_s, gb_s2, gb_s3, gq_s, wt_nil, wt_int, wt_long, wt_ref, wt_null, nl_int, nl_long, nl_ref, nl_null, nl_none, rf_n, rf_s, rf_st, tl_s, tl_n, g0, gS, ex1, nb_b, nb_0, nb_1, nf_i, nf_l, nf_ra, nf_ro, nf_na, nf_no, nf_b0, nf_z0, t45_4, t45_5, true_and, and_true, List.set_cons_zero, List.set_cons_succ, List.length_cons, List.length_nil, rd_s, upw_s, ne_eq, not_false_eq_true, Nat.zero_add, Nat.add_zero]
    | split
    | with_reducible intro _
    | omega
set_option maxHeartbeats 4000000 in
theorem lX1_isEachEndHeld_2 {a0 : Nat} (h0 : isR w a0) (hQ : ∀ v : Bool, Q (.inl (some (.int (bI v)))) w) : ∀ (d : Nat) (i1 : Int32) (i2 : Option Value) (i3 : Option Value) (k m : Nat), ¬ i1 < 0 → (4 : Int32).toInt - i1.toInt ≤ (d : Int) → k ≤ 0 → m ≤ 0 → WP (MX1_isEachEndHeld g) Q (2, [some (.ref a0), some (.int i1), i2, i3], [], w, k, m) := by
  intro d
  have hQt : Q (.inl (some (.int 1))) w := hQ true
  have hQf : Q (.inl (some (.int 0))) w := hQ false
  induction d with
  | zero =>
    intro i1 i2 i3 k m z0 hm hk hs
    rw [eX1_isEachEndHeld_2]
    repeat' first
      | with_reducible assumption
      | with_reducible refine And.intro ?_ ?_
      | with_reducible exact vpi6 (by assumption) (by assumption)
      | with_reducible exact vpi8 (by assumption) (by assumption)
      | with_reducible exact (ic_z (by assumption) (by assumption)).elim
      | with_reducible exact vpi12 (by assumption) (by assumption) (by assumption)
      | with_reducible refine sX0_endAt (by first | assumption | exact hgc _ _ (by assumption) | exact hgl _ _ (by assumption) | exact isR.ext (by assumption) (by assumption)) ?_
      | with_reducible refine sX0_holds (by first | assumption | exact hgc _ _ (by assumption) | exact hgl _ _ (by assumption) | exact isR.ext (by assumption) (by assumption)) ?_
      | with_reducible refine sX0_holdsAsSmall (by first | assumption | exact hgc _ _ (by assumption) | exact hgl _ _ (by assumption) | exact isR.ext (by assumption) (by assumption)) ?_
      | with_reducible refine sX0_fitsSmall (by first | assumption | exact hgc _ _ (by assumption) | exact hgl _ _ (by assumption) | exact isR.ext (by assumption) (by assumption)) ?_
      | with_reducible refine go_R (by assumption) ?_
      | with_reducible exact hQ _
      | with_reducible exact hQt
      | with_reducible exact hQf
      | simp only [eX1_isEachEndHeld_0, eX1_isEachEndHeld_1, eX1_isEachEndHeld_3, eX1_isEachEndHeld_4, eX1_isEachEndHeld_7, eX1_isEachEndHeld_7N, eX1_isEachEndHeld_8, eX1_isEachEndHeld_9, eX1_isEachEndHeld_12, eX1_isEachEndHeld_13, eX1_isEachEndHeld_13N, eX1_isEachEndHeld_14, eX1_isEachEndHeld_15, eX1_isEachEndHeld_18, eX1_isEachEndHeld_21, eX1_isEachEndHeld_21N, eX1_isEachEndHeld_22, eX1_isEachEndHeld_23, eX1_isEachEndHeld_26, eX1_isEachEndHeld_26N, eX1_isEachEndHeld_27, eX1_isEachEndHeld_30, eX1_isEachEndHeld_33, eX1_isEachEndHeld_34, eX1_isEachEndHeld_35, eX1_isEachEndHeld_38, eX1_isEachEndHeld_41, eX1_isEachEndHeld_42, ite_le, n45, n54, true_or, or_true, false_or, or_false, false_and, and_false, kx_l, kx_r, go_s, gl_s, gi_s, gb_s2, gb_s3, gq_s, wt_nil, wt_int, wt_long, wt_ref, wt_null, nl_int, nl_long, nl_ref, nl_null, nl_none, rf_n, rf_s, rf_st, tl_s, tl_n, g0, gS, ex1, nb_b, nb_0, nb_1, nf_i, nf_l, nf_ra, nf_ro, nf_na, nf_no, nf_b0, nf_z0, t45_4, t45_5, true_and, and_true, List.set_cons_zero, List.set_cons_succ, List.length_cons, List.length_nil, rd_s, upw_s, ne_eq, not_false_eq_true, Nat.zero_add, Nat.add_zero]
      | split
      | with_reducible intro _
      | omega
  | succ d ih =>
    intro i1 i2 i3 k m z0 hm hk hs
    rw [eX1_isEachEndHeld_2]
    repeat' first
      | with_reducible assumption
      | with_reducible refine And.intro ?_ ?_
      | with_reducible exact vpi6 (by assumption) (by assumption)
      | with_reducible exact vpi8 (by assumption) (by assumption)
      | with_reducible exact ih _ _ _ _ _ (ic_p (by assumption) (by assumption)) (ic_s (by assumption) (by assumption)) (by first | assumption | omega) (by first | assumption | omega)
      | with_reducible exact vpi12 (by assumption) (by assumption) (by assumption)
      | with_reducible refine sX0_endAt (by first | assumption | exact hgc _ _ (by assumption) | exact hgl _ _ (by assumption) | exact isR.ext (by assumption) (by assumption)) ?_
      | with_reducible refine sX0_holds (by first | assumption | exact hgc _ _ (by assumption) | exact hgl _ _ (by assumption) | exact isR.ext (by assumption) (by assumption)) ?_
      | with_reducible refine sX0_holdsAsSmall (by first | assumption | exact hgc _ _ (by assumption) | exact hgl _ _ (by assumption) | exact isR.ext (by assumption) (by assumption)) ?_
      | with_reducible refine sX0_fitsSmall (by first | assumption | exact hgc _ _ (by assumption) | exact hgl _ _ (by assumption) | exact isR.ext (by assumption) (by assumption)) ?_
      | with_reducible refine go_R (by assumption) ?_
      | with_reducible exact hQ _
      | with_reducible exact hQt
      | with_reducible exact hQf
      | simp only [eX1_isEachEndHeld_0, eX1_isEachEndHeld_1, eX1_isEachEndHeld_3, eX1_isEachEndHeld_4, eX1_isEachEndHeld_7, eX1_isEachEndHeld_7N, eX1_isEachEndHeld_8, eX1_isEachEndHeld_9, eX1_isEachEndHeld_12, eX1_isEachEndHeld_13, eX1_isEachEndHeld_13N, eX1_isEachEndHeld_14, eX1_isEachEndHeld_15, eX1_isEachEndHeld_18, eX1_isEachEndHeld_21, eX1_isEachEndHeld_21N, eX1_isEachEndHeld_22, eX1_isEachEndHeld_23, eX1_isEachEndHeld_26, eX1_isEachEndHeld_26N, eX1_isEachEndHeld_27, eX1_isEachEndHeld_30, eX1_isEachEndHeld_33, eX1_isEachEndHeld_34, eX1_isEachEndHeld_35, eX1_isEachEndHeld_38, eX1_isEachEndHeld_41, eX1_isEachEndHeld_42, ite_le, n45, n54, true_or, or_true, false_or, or_false, false_and, and_false, kx_l, kx_r, go_s, gl_s, gi_s, gb_s2, gb_s3, gq_s, wt_nil, wt_int, wt_long, wt_ref, wt_null, nl_int, nl_long, nl_ref, nl_null, nl_none, rf_n, rf_s, rf_st, tl_s, tl_n, g0, gS, ex1, nb_b, nb_0, nb_1, nf_i, nf_l, nf_ra, nf_ro, nf_na, nf_no, nf_b0, nf_z0, t45_4, t45_5, true_and, and_true, List.set_cons_zero, List.set_cons_succ, List.length_cons, List.length_nil, rd_s, upw_s, ne_eq, not_false_eq_true, Nat.zero_add, Nat.add_zero]
      | split
      | with_reducible intro _
      | omega
set_option maxHeartbeats 4000000 in
theorem sX1_isEachEndHeld {a0 : Nat} (h0 : isR w a0) (hQ : ∀ v : Bool, Q (.inl (some (.int (bI v)))) w) : WP (MX1_isEachEndHeld g) Q (0, [some (.ref a0), none, none, none], [], w, 0, 0) := by
  have hQt : Q (.inl (some (.int 1))) w := hQ true
  have hQf : Q (.inl (some (.int 0))) w := hQ false
  repeat' first
    | with_reducible assumption
    | with_reducible refine And.intro ?_ ?_
    | with_reducible exact vpi6 (by assumption) (by assumption)
    | with_reducible exact vpi8 (by assumption) (by assumption)
    | with_reducible exact lX1_isEachEndHeld_2 h0 hQ 70 _ _ _ _ _ (by first | decide | assumption) (by first | decide | exact n12 (by assumption) | exact n60 (by assumption)) (by first | decide | omega) (by first | decide | omega)
    | with_reducible refine sX0_endAt (by first | assumption | exact hgc _ _ (by assumption) | exact hgl _ _ (by assumption) | exact isR.ext (by assumption) (by assumption)) ?_
    | with_reducible refine sX0_holds (by first | assumption | exact hgc _ _ (by assumption) | exact hgl _ _ (by assumption) | exact isR.ext (by assumption) (by assumption)) ?_
    | with_reducible refine sX0_holdsAsSmall (by first | assumption | exact hgc _ _ (by assumption) | exact hgl _ _ (by assumption) | exact isR.ext (by assumption) (by assumption)) ?_
    | with_reducible refine sX0_fitsSmall (by first | assumption | exact hgc _ _ (by assumption) | exact hgl _ _ (by assumption) | exact isR.ext (by assumption) (by assumption)) ?_
    | with_reducible refine go_R (by assumption) ?_
    | with_reducible exact hQ _
    | with_reducible exact hQt
    | with_reducible exact hQf
    | simp only [eX1_isEachEndHeld_0, eX1_isEachEndHeld_1, eX1_isEachEndHeld_3, eX1_isEachEndHeld_4, eX1_isEachEndHeld_7, eX1_isEachEndHeld_7N, eX1_isEachEndHeld_8, eX1_isEachEndHeld_9, eX1_isEachEndHeld_12, eX1_isEachEndHeld_13, eX1_isEachEndHeld_13N, eX1_isEachEndHeld_14, eX1_isEachEndHeld_15, eX1_isEachEndHeld_18, eX1_isEachEndHeld_21, eX1_isEachEndHeld_21N, eX1_isEachEndHeld_22, eX1_isEachEndHeld_23, eX1_isEachEndHeld_26, eX1_isEachEndHeld_26N, eX1_isEachEndHeld_27, eX1_isEachEndHeld_30, eX1_isEachEndHeld_33, eX1_isEachEndHeld_34, eX1_isEachEndHeld_35, eX1_isEachEndHeld_38, eX1_isEachEndHeld_41, eX1_isEachEndHeld_42, ite_le, n45, n54, true_or, or_true, false_or, or_false, false_and, and_false, kx_l, kx_r, go_s, gl_s, gi_s, gb_s2, gb_s3, gq_s, wt_nil, wt_int, wt_long, wt_ref, wt_null, nl_int, nl_long, nl_ref, nl_null, nl_none, rf_n, rf_s, rf_st, tl_s, tl_n, g0, gS, ex1, nb_b, nb_0, nb_1, nf_i, nf_l, nf_ra, nf_ro, nf_na, nf_no, nf_b0, nf_z0, t45_4, t45_5, true_and, and_true, List.set_cons_zero, List.set_cons_succ, List.length_cons, List.length_nil, rd_s, upw_s, ne_eq, not_false_eq_true, Nat.zero_add, Nat.add_zero]
    | split
    | with_reducible intro _
    | omega
set_option maxHeartbeats 4000000 in
theorem lX1_hasSameValid_8R {a0 : Nat} {a1 : Nat} (hC : CC g w0 x nA cA lA kn w) (h0 : isR w a0) (h1 : isR w a1) (hQ : ∀ v : Bool, Q (.inl (some (.int (bI v)))) w) : ∀ (n rf md : Int32) (f : Nat → Int64) (gc gl : Nat → Option Nat), RO5 g w x nA cA lA n rf kn md f gc gl → ∀ (d : Nat) (i3 : Int32) (k m : Nat), ¬ i3 < 0 → (8 : Int32).toInt - i3.toInt ≤ (d : Int) → k ≤ 0 → m ≤ 0 → WP (MX1_hasSameValid g) Q (8, [some (.ref x), some (.ref a0), some (.ref a1), some (.int i3)], [], w, k, m) := by
  rintro n rf md f gc gl ⟨hx, hn, hc, hl, hgc, hgl, hn0, hn1, rx, rn, rc, rl, ⟨d1, d2, d3, d4, d5, d6⟩, ⟨d7, d8, d9, d10, d11, d12⟩⟩ d
  have hQt : Q (.inl (some (.int 1))) w := hQ true
  have hQf : Q (.inl (some (.int 0))) w := hQ false
  induction d with
  | zero =>
    intro i3 k m z0 hm hk hs
    rw [eX1_hasSameValid_8]
    repeat' first
      | with_reducible assumption
      | with_reducible refine And.intro ?_ ?_
      | with_reducible exact vpi6 (by assumption) (by assumption)
      | with_reducible exact vpi8 (by assumption) (by assumption)
      | with_reducible exact (ic_z (by assumption) (by assumption)).elim
      | with_reducible exact vpi12 (by assumption) (by assumption) (by assumption)
      | with_reducible refine sX0_holds (by first | assumption | exact hgc _ _ (by assumption) | exact hgl _ _ (by assumption) | exact isR.ext (by assumption) (by assumption)) ?_
      | with_reducible refine go_R (by first | assumption | exact hgc _ _ (by assumption) | exact hgl _ _ (by assumption) | exact isR.ext (by assumption) (by assumption)) ?_
      | with_reducible exact hQ _
      | with_reducible exact hQt
      | with_reducible exact hQf
      | simp only [eX1_hasSameValid_0, eX1_hasSameValid_0N, eX1_hasSameValid_1R, eX1_hasSameValid_1N, eX1_hasSameValid_4, eX1_hasSameValid_5, eX1_hasSameValid_6, eX1_hasSameValid_7, eX1_hasSameValid_9, eX1_hasSameValid_11, eX1_hasSameValid_14, eX1_hasSameValid_14N, eX1_hasSameValid_15, eX1_hasSameValid_15N, eX1_hasSameValid_16, eX1_hasSameValid_19, eX1_hasSameValid_20, eX1_hasSameValid_21, eX1_hasSameValid_24, eX1_hasSameValid_24N, eX1_hasSameValid_25, eX1_hasSameValid_25N, eX1_hasSameValid_26, eX1_hasSameValid_29, eX1_hasSameValid_30, eX1_hasSameValid_31, eX1_hasSameValid_34, eX1_hasSameValid_37, eX1_hasSameValid_38, eX1_hasSameValid_39, eX1_hasSameValid_42, eX1_hasSameValid_45, eX1_hasSameValid_46, rx, rn, rc, rl, hx, hn, hc, hl, d1, d2, d3, d4, d5, d6, d7, d8, d9, d10, d11, d12, rd_n, upw_n, ite_le, n45, n54, true_or, or_true, false_or, or_false, false_and, and_false, kx_l, kx_r, go_s, gl_s, gi_s, gb_s2, gb_s3, gq_s, wt_nil, wt_int, wt_long, wt_ref, wt_null, nl_int, nl_long, nl_ref, nl_null, nl_none, rf_n, rf_s, rf_st, tl_s, tl_n, g0, gS, ex1, nb_b, nb_0, nb_1, nf_i, nf_l, nf_ra, nf_ro, nf_na, nf_no, nf_b0, nf_z0, t45_4, t45_5, true_and, and_true, List.set_cons_zero, List.set_cons_succ, List.length_cons, List.length_nil, rd_s, upw_s, ne_eq, not_false_eq_true, Nat.zero_add, Nat.add_zero]
      | split
      | with_reducible intro _
      | omega
  | succ d ih =>
    intro i3 k m z0 hm hk hs
    rw [eX1_hasSameValid_8]
    repeat' first
      | with_reducible assumption
      | with_reducible refine And.intro ?_ ?_
      | with_reducible exact vpi6 (by assumption) (by assumption)
      | with_reducible exact vpi8 (by assumption) (by assumption)
      | with_reducible exact ih _ _ _ (ic_p (by assumption) (by assumption)) (ic_s (by assumption) (by assumption)) (by first | assumption | omega) (by first | assumption | omega)
      | with_reducible exact vpi12 (by assumption) (by assumption) (by assumption)
      | with_reducible refine sX0_holds (by first | assumption | exact hgc _ _ (by assumption) | exact hgl _ _ (by assumption) | exact isR.ext (by assumption) (by assumption)) ?_
      | with_reducible refine go_R (by first | assumption | exact hgc _ _ (by assumption) | exact hgl _ _ (by assumption) | exact isR.ext (by assumption) (by assumption)) ?_
      | with_reducible exact hQ _
      | with_reducible exact hQt
      | with_reducible exact hQf
      | simp only [eX1_hasSameValid_0, eX1_hasSameValid_0N, eX1_hasSameValid_1R, eX1_hasSameValid_1N, eX1_hasSameValid_4, eX1_hasSameValid_5, eX1_hasSameValid_6, eX1_hasSameValid_7, eX1_hasSameValid_9, eX1_hasSameValid_11, eX1_hasSameValid_14, eX1_hasSameValid_14N, eX1_hasSameValid_15, eX1_hasSameValid_15N, eX1_hasSameValid_16, eX1_hasSameValid_19, eX1_hasSameValid_20, eX1_hasSameValid_21, eX1_hasSameValid_24, eX1_hasSameValid_24N, eX1_hasSameValid_25, eX1_hasSameValid_25N, eX1_hasSameValid_26, eX1_hasSameValid_29, eX1_hasSameValid_30, eX1_hasSameValid_31, eX1_hasSameValid_34, eX1_hasSameValid_37, eX1_hasSameValid_38, eX1_hasSameValid_39, eX1_hasSameValid_42, eX1_hasSameValid_45, eX1_hasSameValid_46, rx, rn, rc, rl, hx, hn, hc, hl, d1, d2, d3, d4, d5, d6, d7, d8, d9, d10, d11, d12, rd_n, upw_n, ite_le, n45, n54, true_or, or_true, false_or, or_false, false_and, and_false, kx_l, kx_r, go_s, gl_s, gi_s, gb_s2, gb_s3, gq_s, wt_nil, wt_int, wt_long, wt_ref, wt_null, nl_int, nl_long, nl_ref, nl_null, nl_none, rf_n, rf_s, rf_st, tl_s, tl_n, g0, gS, ex1, nb_b, nb_0, nb_1, nf_i, nf_l, nf_ra, nf_ro, nf_na, nf_no, nf_b0, nf_z0, t45_4, t45_5, true_and, and_true, List.set_cons_zero, List.set_cons_succ, List.length_cons, List.length_nil, rd_s, upw_s, ne_eq, not_false_eq_true, Nat.zero_add, Nat.add_zero]
      | split
      | with_reducible intro _
      | omega
set_option maxHeartbeats 4000000 in
theorem sX1_hasSameValidR {a0 : Nat} {a1 : Nat} (hC : CC g w0 x nA cA lA kn w) (h0 : isR w a0) (h1 : isR w a1) (hQ : ∀ v : Bool, Q (.inl (some (.int (bI v)))) w) : WP (MX1_hasSameValid g) Q (0, [some (.ref x), some (.ref a0), some (.ref a1), none], [], w, 0, 0) := by
  obtain ⟨n, rf, md, f, gc, gl, hx, hn, hc, hl, hgc, hgl, hn0, hn1, rx, rn, rc, rl, ⟨d1, d2, d3, d4, d5, d6⟩, ⟨d7, d8, d9, d10, d11, d12⟩⟩ := hC.1.opn g
  have hQt : Q (.inl (some (.int 1))) w := hQ true
  have hQf : Q (.inl (some (.int 0))) w := hQ false
  repeat' first
    | with_reducible assumption
    | with_reducible refine And.intro ?_ ?_
    | with_reducible exact vpi6 (by assumption) (by assumption)
    | with_reducible exact vpi8 (by assumption) (by assumption)
    | with_reducible exact lX1_hasSameValid_8R hC h0 h1 hQ _ _ _ _ _ _ ⟨hx, hn, hc, hl, hgc, hgl, hn0, hn1, rx, rn, rc, rl, ⟨d1, d2, d3, d4, d5, d6⟩, ⟨d7, d8, d9, d10, d11, d12⟩⟩ 70 _ _ _ (by first | decide | assumption) (by first | decide | exact n12 (by assumption) | exact n60 (by assumption)) (by first | decide | omega) (by first | decide | omega)
    | with_reducible refine sX0_holds (by first | assumption | exact hgc _ _ (by assumption) | exact hgl _ _ (by assumption) | exact isR.ext (by assumption) (by assumption)) ?_
    | with_reducible refine go_R (by first | assumption | exact hgc _ _ (by assumption) | exact hgl _ _ (by assumption) | exact isR.ext (by assumption) (by assumption)) ?_
    | with_reducible exact hQ _
    | with_reducible exact hQt
    | with_reducible exact hQf
    | simp only [eX1_hasSameValid_0, eX1_hasSameValid_0N, eX1_hasSameValid_1R, eX1_hasSameValid_1N, eX1_hasSameValid_4, eX1_hasSameValid_5, eX1_hasSameValid_6, eX1_hasSameValid_7, eX1_hasSameValid_9, eX1_hasSameValid_11, eX1_hasSameValid_14, eX1_hasSameValid_14N, eX1_hasSameValid_15, eX1_hasSameValid_15N, eX1_hasSameValid_16, eX1_hasSameValid_19, eX1_hasSameValid_20, eX1_hasSameValid_21, eX1_hasSameValid_24, eX1_hasSameValid_24N, eX1_hasSameValid_25, eX1_hasSameValid_25N, eX1_hasSameValid_26, eX1_hasSameValid_29, eX1_hasSameValid_30, eX1_hasSameValid_31, eX1_hasSameValid_34, eX1_hasSameValid_37, eX1_hasSameValid_38, eX1_hasSameValid_39, eX1_hasSameValid_42, eX1_hasSameValid_45, eX1_hasSameValid_46, rx, rn, rc, rl, hx, hn, hc, hl, d1, d2, d3, d4, d5, d6, d7, d8, d9, d10, d11, d12, rd_n, upw_n, ite_le, n45, n54, true_or, or_true, false_or, or_false, false_and, and_false, kx_l, kx_r, go_s, gl_s, gi_s, gb_s2, gb_s3, gq_s, wt_nil, wt_int, wt_long, wt_ref, wt_null, nl_int, nl_long, nl_ref, nl_null, nl_none, rf_n, rf_s, rf_st, tl_s, tl_n, g0, gS, ex1, nb_b, nb_0, nb_1, nf_i, nf_l, nf_ra, nf_ro, nf_na, nf_no, nf_b0, nf_z0, t45_4, t45_5, true_and, and_true, List.set_cons_zero, List.set_cons_succ, List.length_cons, List.length_nil, rd_s, upw_s, ne_eq, not_false_eq_true, Nat.zero_add, Nat.add_zero]
    | split
    | with_reducible intro _
    | omega
set_option maxHeartbeats 4000000 in
theorem sX1_hasSameValidN {a1 : Nat} (hC : CC g w0 x nA cA lA kn w) (h1 : isR w a1) (hQ : ∀ v : Bool, Q (.inl (some (.int (bI v)))) w) : WP (MX1_hasSameValid g) Q (0, [some (.ref x), some .null, some (.ref a1), none], [], w, 0, 0) := by
  obtain ⟨n, rf, md, f, gc, gl, hx, hn, hc, hl, hgc, hgl, hn0, hn1, rx, rn, rc, rl, ⟨d1, d2, d3, d4, d5, d6⟩, ⟨d7, d8, d9, d10, d11, d12⟩⟩ := hC.1.opn g
  have hQt : Q (.inl (some (.int 1))) w := hQ true
  have hQf : Q (.inl (some (.int 0))) w := hQ false
  repeat' first
    | with_reducible assumption
    | with_reducible refine And.intro ?_ ?_
    | with_reducible exact vpi6 (by assumption) (by assumption)
    | with_reducible exact vpi8 (by assumption) (by assumption)
    | with_reducible refine sX0_holds (by first | assumption | exact hgc _ _ (by assumption) | exact hgl _ _ (by assumption) | exact isR.ext (by assumption) (by assumption)) ?_
    | with_reducible refine go_R (by first | assumption | exact hgc _ _ (by assumption) | exact hgl _ _ (by assumption) | exact isR.ext (by assumption) (by assumption)) ?_
    | with_reducible exact hQ _
    | with_reducible exact hQt
    | with_reducible exact hQf
    | simp only [eX1_hasSameValid_0, eX1_hasSameValid_0N, eX1_hasSameValid_1R, eX1_hasSameValid_1N, eX1_hasSameValid_4, eX1_hasSameValid_5, eX1_hasSameValid_6, eX1_hasSameValid_7, eX1_hasSameValid_9, eX1_hasSameValid_11, eX1_hasSameValid_14, eX1_hasSameValid_14N, eX1_hasSameValid_15, eX1_hasSameValid_15N, eX1_hasSameValid_16, eX1_hasSameValid_19, eX1_hasSameValid_20, eX1_hasSameValid_21, eX1_hasSameValid_24, eX1_hasSameValid_24N, eX1_hasSameValid_25, eX1_hasSameValid_25N, eX1_hasSameValid_26, eX1_hasSameValid_29, eX1_hasSameValid_30, eX1_hasSameValid_31, eX1_hasSameValid_34, eX1_hasSameValid_37, eX1_hasSameValid_38, eX1_hasSameValid_39, eX1_hasSameValid_42, eX1_hasSameValid_45, eX1_hasSameValid_46, rx, rn, rc, rl, hx, hn, hc, hl, d1, d2, d3, d4, d5, d6, d7, d8, d9, d10, d11, d12, rd_n, upw_n, ite_le, n45, n54, true_or, or_true, false_or, or_false, false_and, and_false, kx_l, kx_r, go_s, gl_s, gi_s, gb_s2, gb_s3, gq_s, wt_nil, wt_int, wt_long, wt_ref, wt_null, nl_int, nl_long, nl_ref, nl_null, nl_none, rf_n, rf_s, rf_st, tl_s, tl_n, g0, gS, ex1, nb_b, nb_0, nb_1, nf_i, nf_l, nf_ra, nf_ro, nf_na, nf_no, nf_b0, nf_z0, t45_4, t45_5, true_and, and_true, List.set_cons_zero, List.set_cons_succ, List.length_cons, List.length_nil, rd_s, upw_s, ne_eq, not_false_eq_true, Nat.zero_add, Nat.add_zero]
    | split
    | with_reducible intro _
    | omega
set_option maxHeartbeats 4000000 in
theorem lX1_isSameToAndFro_2 {a0 : Nat} (hC : CC g w0 x nA cA lA kn w) (h0 : isR w a0) (hQ : ∀ v : Bool, Q (.inl (some (.int (bI v)))) w) : ∀ (n rf md : Int32) (f : Nat → Int64) (gc gl : Nat → Option Nat), RO5 g w x nA cA lA n rf kn md f gc gl → ∀ (d : Nat) (i2 : Int32) (i3 : Option Value) (k m : Nat), ¬ i2 < 0 → (6 : Int32).toInt - i2.toInt ≤ (d : Int) → k ≤ 0 → m ≤ 0 → WP (MX1_isSameToAndFro g) Q (2, [some (.ref x), some (.ref a0), some (.int i2), i3], [], w, k, m) := by
  rintro n rf md f gc gl ⟨hx, hn, hc, hl, hgc, hgl, hn0, hn1, rx, rn, rc, rl, ⟨d1, d2, d3, d4, d5, d6⟩, ⟨d7, d8, d9, d10, d11, d12⟩⟩ d
  have hQt : Q (.inl (some (.int 1))) w := hQ true
  have hQf : Q (.inl (some (.int 0))) w := hQ false
  induction d with
  | zero =>
    intro i2 i3 k m z0 hm hk hs
    rw [eX1_isSameToAndFro_2]
    repeat' first
      | with_reducible assumption
      | with_reducible refine And.intro ?_ ?_
      | with_reducible exact vpi6 (by assumption) (by assumption)
      | with_reducible exact vpi8 (by assumption) (by assumption)
      | with_reducible exact (ic_z (by assumption) (by assumption)).elim
      | with_reducible exact vpi12 (by assumption) (by assumption) (by assumption)
      | with_reducible refine sX0_matchesR (by first | assumption | exact hgc _ _ (by assumption) | exact hgl _ _ (by assumption) | exact isR.ext (by assumption) (by assumption)) (by first | assumption | exact hgc _ _ (by assumption) | exact hgl _ _ (by assumption) | exact isR.ext (by assumption) (by assumption)) ?_
      | with_reducible refine sX0_matchesN (by first | assumption | exact hgc _ _ (by assumption) | exact hgl _ _ (by assumption) | exact isR.ext (by assumption) (by assumption)) ?_
      | with_reducible refine go_R (by first | assumption | exact hgc _ _ (by assumption) | exact hgl _ _ (by assumption) | exact isR.ext (by assumption) (by assumption)) ?_
      | with_reducible exact hQ _
      | with_reducible exact hQt
      | with_reducible exact hQf
      | simp only [eX1_isSameToAndFro_0, eX1_isSameToAndFro_1, eX1_isSameToAndFro_3, eX1_isSameToAndFro_5, eX1_isSameToAndFro_8, eX1_isSameToAndFro_8N, eX1_isSameToAndFro_9, eX1_isSameToAndFro_12, eX1_isSameToAndFro_13, eX1_isSameToAndFro_14, eX1_isSameToAndFro_14N, eX1_isSameToAndFro_15, eX1_isSameToAndFro_15N, eX1_isSameToAndFro_16R, eX1_isSameToAndFro_16N, eX1_isSameToAndFro_19, eX1_isSameToAndFro_19N, eX1_isSameToAndFro_20, eX1_isSameToAndFro_20N, eX1_isSameToAndFro_21R, eX1_isSameToAndFro_21N, eX1_isSameToAndFro_24, eX1_isSameToAndFro_24N, eX1_isSameToAndFro_25, eX1_isSameToAndFro_25N, eX1_isSameToAndFro_26R, eX1_isSameToAndFro_26N, eX1_isSameToAndFro_29, eX1_isSameToAndFro_32, eX1_isSameToAndFro_33, eX1_isSameToAndFro_34, eX1_isSameToAndFro_37, eX1_isSameToAndFro_40, eX1_isSameToAndFro_41, rx, rn, rc, rl, hx, hn, hc, hl, d1, d2, d3, d4, d5, d6, d7, d8, d9, d10, d11, d12, rd_n, upw_n, ite_le, n45, n54, true_or, or_true, false_or, or_false, false_and, and_false, kx_l, kx_r, go_s, gl_s, gi_s, gb_s2, gb_s3, gq_s, wt_nil, wt_int, wt_long, wt_ref, wt_null, nl_int, nl_long, nl_ref, nl_null, nl_none, rf_n, rf_s, rf_st, tl_s, tl_n, g0, gS, ex1, nb_b, nb_0, nb_1, nf_i, nf_l, nf_ra, nf_ro, nf_na, nf_no, nf_b0, nf_z0, t45_4, t45_5, true_and, and_true, List.set_cons_zero, List.set_cons_succ, List.length_cons, List.length_nil, rd_s, upw_s, ne_eq, not_false_eq_true, Nat.zero_add, Nat.add_zero]
      | split
      | with_reducible intro _
      | omega
  | succ d ih =>
    intro i2 i3 k m z0 hm hk hs
    rw [eX1_isSameToAndFro_2]
    repeat' first
      | with_reducible assumption
      | with_reducible refine And.intro ?_ ?_
      | with_reducible exact vpi6 (by assumption) (by assumption)
      | with_reducible exact vpi8 (by assumption) (by assumption)
      | with_reducible exact ih _ _ _ _ (ic_p (by assumption) (by assumption)) (ic_s (by assumption) (by assumption)) (by first | assumption | omega) (by first | assumption | omega)
      | with_reducible exact vpi12 (by assumption) (by assumption) (by assumption)
      | with_reducible refine sX0_matchesR (by first | assumption | exact hgc _ _ (by assumption) | exact hgl _ _ (by assumption) | exact isR.ext (by assumption) (by assumption)) (by first | assumption | exact hgc _ _ (by assumption) | exact hgl _ _ (by assumption) | exact isR.ext (by assumption) (by assumption)) ?_
      | with_reducible refine sX0_matchesN (by first | assumption | exact hgc _ _ (by assumption) | exact hgl _ _ (by assumption) | exact isR.ext (by assumption) (by assumption)) ?_
      | with_reducible refine go_R (by first | assumption | exact hgc _ _ (by assumption) | exact hgl _ _ (by assumption) | exact isR.ext (by assumption) (by assumption)) ?_
      | with_reducible exact hQ _
      | with_reducible exact hQt
      | with_reducible exact hQf
      | simp only [eX1_isSameToAndFro_0, eX1_isSameToAndFro_1, eX1_isSameToAndFro_3, eX1_isSameToAndFro_5, eX1_isSameToAndFro_8, eX1_isSameToAndFro_8N, eX1_isSameToAndFro_9, eX1_isSameToAndFro_12, eX1_isSameToAndFro_13, eX1_isSameToAndFro_14, eX1_isSameToAndFro_14N, eX1_isSameToAndFro_15, eX1_isSameToAndFro_15N, eX1_isSameToAndFro_16R, eX1_isSameToAndFro_16N, eX1_isSameToAndFro_19, eX1_isSameToAndFro_19N, eX1_isSameToAndFro_20, eX1_isSameToAndFro_20N, eX1_isSameToAndFro_21R, eX1_isSameToAndFro_21N, eX1_isSameToAndFro_24, eX1_isSameToAndFro_24N, eX1_isSameToAndFro_25, eX1_isSameToAndFro_25N, eX1_isSameToAndFro_26R, eX1_isSameToAndFro_26N, eX1_isSameToAndFro_29, eX1_isSameToAndFro_32, eX1_isSameToAndFro_33, eX1_isSameToAndFro_34, eX1_isSameToAndFro_37, eX1_isSameToAndFro_40, eX1_isSameToAndFro_41, rx, rn, rc, rl, hx, hn, hc, hl, d1, d2, d3, d4, d5, d6, d7, d8, d9, d10, d11, d12, rd_n, upw_n, ite_le, n45, n54, true_or, or_true, false_or, or_false, false_and, and_false, kx_l, kx_r, go_s, gl_s, gi_s, gb_s2, gb_s3, gq_s, wt_nil, wt_int, wt_long, wt_ref, wt_null, nl_int, nl_long, nl_ref, nl_null, nl_none, rf_n, rf_s, rf_st, tl_s, tl_n, g0, gS, ex1, nb_b, nb_0, nb_1, nf_i, nf_l, nf_ra, nf_ro, nf_na, nf_no, nf_b0, nf_z0, t45_4, t45_5, true_and, and_true, List.set_cons_zero, List.set_cons_succ, List.length_cons, List.length_nil, rd_s, upw_s, ne_eq, not_false_eq_true, Nat.zero_add, Nat.add_zero]
      | split
      | with_reducible intro _
      | omega
set_option maxHeartbeats 4000000 in
theorem sX1_isSameToAndFro {a0 : Nat} (hC : CC g w0 x nA cA lA kn w) (h0 : isR w a0) (hQ : ∀ v : Bool, Q (.inl (some (.int (bI v)))) w) : WP (MX1_isSameToAndFro g) Q (0, [some (.ref x), some (.ref a0), none, none], [], w, 0, 0) := by
  obtain ⟨n, rf, md, f, gc, gl, hx, hn, hc, hl, hgc, hgl, hn0, hn1, rx, rn, rc, rl, ⟨d1, d2, d3, d4, d5, d6⟩, ⟨d7, d8, d9, d10, d11, d12⟩⟩ := hC.1.opn g
  have hQt : Q (.inl (some (.int 1))) w := hQ true
  have hQf : Q (.inl (some (.int 0))) w := hQ false
  repeat' first
    | with_reducible assumption
    | with_reducible refine And.intro ?_ ?_
    | with_reducible exact vpi6 (by assumption) (by assumption)
    | with_reducible exact vpi8 (by assumption) (by assumption)
    | with_reducible exact lX1_isSameToAndFro_2 hC h0 hQ _ _ _ _ _ _ ⟨hx, hn, hc, hl, hgc, hgl, hn0, hn1, rx, rn, rc, rl, ⟨d1, d2, d3, d4, d5, d6⟩, ⟨d7, d8, d9, d10, d11, d12⟩⟩ 70 _ _ _ _ (by first | decide | assumption) (by first | decide | exact n12 (by assumption) | exact n60 (by assumption)) (by first | decide | omega) (by first | decide | omega)
    | with_reducible refine sX0_matchesR (by first | assumption | exact hgc _ _ (by assumption) | exact hgl _ _ (by assumption) | exact isR.ext (by assumption) (by assumption)) (by first | assumption | exact hgc _ _ (by assumption) | exact hgl _ _ (by assumption) | exact isR.ext (by assumption) (by assumption)) ?_
    | with_reducible refine sX0_matchesN (by first | assumption | exact hgc _ _ (by assumption) | exact hgl _ _ (by assumption) | exact isR.ext (by assumption) (by assumption)) ?_
    | with_reducible refine go_R (by first | assumption | exact hgc _ _ (by assumption) | exact hgl _ _ (by assumption) | exact isR.ext (by assumption) (by assumption)) ?_
    | with_reducible exact hQ _
    | with_reducible exact hQt
    | with_reducible exact hQf
    | simp only [eX1_isSameToAndFro_0, eX1_isSameToAndFro_1, eX1_isSameToAndFro_3, eX1_isSameToAndFro_5, eX1_isSameToAndFro_8, eX1_isSameToAndFro_8N, eX1_isSameToAndFro_9, eX1_isSameToAndFro_12, eX1_isSameToAndFro_13, eX1_isSameToAndFro_14, eX1_isSameToAndFro_14N, eX1_isSameToAndFro_15, eX1_isSameToAndFro_15N, eX1_isSameToAndFro_16R, eX1_isSameToAndFro_16N, eX1_isSameToAndFro_19, eX1_isSameToAndFro_19N, eX1_isSameToAndFro_20, eX1_isSameToAndFro_20N, eX1_isSameToAndFro_21R, eX1_isSameToAndFro_21N, eX1_isSameToAndFro_24, eX1_isSameToAndFro_24N, eX1_isSameToAndFro_25, eX1_isSameToAndFro_25N, eX1_isSameToAndFro_26R, eX1_isSameToAndFro_26N, eX1_isSameToAndFro_29, eX1_isSameToAndFro_32, eX1_isSameToAndFro_33, eX1_isSameToAndFro_34, eX1_isSameToAndFro_37, eX1_isSameToAndFro_40, eX1_isSameToAndFro_41, rx, rn, rc, rl, hx, hn, hc, hl, d1, d2, d3, d4, d5, d6, d7, d8, d9, d10, d11, d12, rd_n, upw_n, ite_le, n45, n54, true_or, or_true, false_or, or_false, false_and, and_false, kx_l, kx_r, go_s, gl_s, gi_s, gb_s2, gb_s3, gq_s, wt_nil, wt_int, wt_long, wt_ref, wt_null, nl_int, nl_long, nl_ref, nl_null, nl_none, rf_n, rf_s, rf_st, tl_s, tl_n, g0, gS, ex1, nb_b, nb_0, nb_1, nf_i, nf_l, nf_ra, nf_ro, nf_na, nf_no, nf_b0, nf_z0, t45_4, t45_5, true_and, and_true, List.set_cons_zero, List.set_cons_succ, List.length_cons, List.length_nil, rd_s, upw_s, ne_eq, not_false_eq_true, Nat.zero_add, Nat.add_zero]
    | split
    | with_reducible intro _
    | omega
set_option maxHeartbeats 4000000 in
theorem lX1_isEachFoundInPile_2  (hC : CC g w0 x nA cA lA kn w) (hQ : ∀ v : Bool, Q (.inl (some (.int (bI v)))) w) : ∀ (n rf md : Int32) (f : Nat → Int64) (gc gl : Nat → Option Nat), RO5 g w x nA cA lA n rf kn md f gc gl → ∀ (d : Nat) (i1 : Int32) (i2 : Option Value) (k m : Nat), ¬ i1 < 0 → (n : Int32).toInt - i1.toInt ≤ (d : Int) → k ≤ 0 → m ≤ 0 → WP (MX1_isEachFoundInPile g) Q (2, [some (.ref x), some (.int i1), i2], [], w, k, m) := by
  rintro n rf md f gc gl ⟨hx, hn, hc, hl, hgc, hgl, hn0, hn1, rx, rn, rc, rl, ⟨d1, d2, d3, d4, d5, d6⟩, ⟨d7, d8, d9, d10, d11, d12⟩⟩ d
  have hQt : Q (.inl (some (.int 1))) w := hQ true
  have hQf : Q (.inl (some (.int 0))) w := hQ false
  induction d with
  | zero =>
    intro i1 i2 k m z0 hm hk hs
    rw [eX1_isEachFoundInPile_2]
    repeat' first
      | with_reducible assumption
      | with_reducible refine And.intro ?_ ?_
      | with_reducible exact vpi6 (by assumption) (by assumption)
      | with_reducible exact vpi8 (by assumption) (by assumption)
      | with_reducible exact (ic_z (by assumption) (by assumption)).elim
      | with_reducible exact vpi12 (by assumption) (by assumption) (by assumption)
      | with_reducible refine sX1_firstPlaceOf (by first | assumption | exact CC.ext (by assumption) (by assumption)) (by first | assumption | exact hgc _ _ (by assumption) | exact hgl _ _ (by assumption) | exact isR.ext (by assumption) (by assumption)) ?_
      | with_reducible refine go_R (by first | assumption | exact hgc _ _ (by assumption) | exact hgl _ _ (by assumption) | exact isR.ext (by assumption) (by assumption)) ?_
      | with_reducible exact hQ _
      | with_reducible exact hQt
      | with_reducible exact hQf
      | simp only [eX1_isEachFoundInPile_0, eX1_isEachFoundInPile_1, eX1_isEachFoundInPile_3, eX1_isEachFoundInPile_3N, eX1_isEachFoundInPile_4, eX1_isEachFoundInPile_7, eX1_isEachFoundInPile_10, eX1_isEachFoundInPile_10N, eX1_isEachFoundInPile_11, eX1_isEachFoundInPile_14, eX1_isEachFoundInPile_15, eX1_isEachFoundInPile_16, eX1_isEachFoundInPile_16N, eX1_isEachFoundInPile_17, eX1_isEachFoundInPile_17N, eX1_isEachFoundInPile_18R, eX1_isEachFoundInPile_18N, eX1_isEachFoundInPile_21, eX1_isEachFoundInPile_21N, eX1_isEachFoundInPile_22, eX1_isEachFoundInPile_22N, eX1_isEachFoundInPile_23R, eX1_isEachFoundInPile_23N, eX1_isEachFoundInPile_26, eX1_isEachFoundInPile_27, eX1_isEachFoundInPile_30, eX1_isEachFoundInPile_31, eX1_isEachFoundInPile_32, eX1_isEachFoundInPile_35, eX1_isEachFoundInPile_38, eX1_isEachFoundInPile_39, rx, rn, rc, rl, hx, hn, hc, hl, d1, d2, d3, d4, d5, d6, d7, d8, d9, d10, d11, d12, rd_n, upw_n, ite_le, n45, n54, true_or, or_true, false_or, or_false, false_and, and_false, kx_l, kx_r, go_s, gl_s, gi_s, gb_s2, gb_s3, gq_s, wt_nil, wt_int, wt_long, wt_ref, wt_null, nl_int, nl_long, nl_ref, nl_null, nl_none, rf_n, rf_s, rf_st, tl_s, tl_n, g0, gS, ex1, nb_b, nb_0, nb_1, nf_i, nf_l, nf_ra, nf_ro, nf_na, nf_no, nf_b0, nf_z0, t45_4, t45_5, true_and, and_true, List.set_cons_zero, List.set_cons_succ, List.length_cons, List.length_nil, rd_s, upw_s, ne_eq, not_false_eq_true, Nat.zero_add, Nat.add_zero]
      | split
      | with_reducible intro _
      | omega
  | succ d ih =>
    intro i1 i2 k m z0 hm hk hs
    rw [eX1_isEachFoundInPile_2]
    repeat' first
      | with_reducible assumption
      | with_reducible refine And.intro ?_ ?_
      | with_reducible exact vpi6 (by assumption) (by assumption)
      | with_reducible exact vpi8 (by assumption) (by assumption)
      | with_reducible exact ih _ _ _ _ (ic_p (by assumption) (by assumption)) (ic_s (by assumption) (by assumption)) (by first | assumption | omega) (by first | assumption | omega)
      | with_reducible exact vpi12 (by assumption) (by assumption) (by assumption)
      | with_reducible refine sX1_firstPlaceOf (by first | assumption | exact CC.ext (by assumption) (by assumption)) (by first | assumption | exact hgc _ _ (by assumption) | exact hgl _ _ (by assumption) | exact isR.ext (by assumption) (by assumption)) ?_
      | with_reducible refine go_R (by first | assumption | exact hgc _ _ (by assumption) | exact hgl _ _ (by assumption) | exact isR.ext (by assumption) (by assumption)) ?_
      | with_reducible exact hQ _
      | with_reducible exact hQt
      | with_reducible exact hQf
      | simp only [eX1_isEachFoundInPile_0, eX1_isEachFoundInPile_1, eX1_isEachFoundInPile_3, eX1_isEachFoundInPile_3N, eX1_isEachFoundInPile_4, eX1_isEachFoundInPile_7, eX1_isEachFoundInPile_10, eX1_isEachFoundInPile_10N, eX1_isEachFoundInPile_11, eX1_isEachFoundInPile_14, eX1_isEachFoundInPile_15, eX1_isEachFoundInPile_16, eX1_isEachFoundInPile_16N, eX1_isEachFoundInPile_17, eX1_isEachFoundInPile_17N, eX1_isEachFoundInPile_18R, eX1_isEachFoundInPile_18N, eX1_isEachFoundInPile_21, eX1_isEachFoundInPile_21N, eX1_isEachFoundInPile_22, eX1_isEachFoundInPile_22N, eX1_isEachFoundInPile_23R, eX1_isEachFoundInPile_23N, eX1_isEachFoundInPile_26, eX1_isEachFoundInPile_27, eX1_isEachFoundInPile_30, eX1_isEachFoundInPile_31, eX1_isEachFoundInPile_32, eX1_isEachFoundInPile_35, eX1_isEachFoundInPile_38, eX1_isEachFoundInPile_39, rx, rn, rc, rl, hx, hn, hc, hl, d1, d2, d3, d4, d5, d6, d7, d8, d9, d10, d11, d12, rd_n, upw_n, ite_le, n45, n54, true_or, or_true, false_or, or_false, false_and, and_false, kx_l, kx_r, go_s, gl_s, gi_s, gb_s2, gb_s3, gq_s, wt_nil, wt_int, wt_long, wt_ref, wt_null, nl_int, nl_long, nl_ref, nl_null, nl_none, rf_n, rf_s, rf_st, tl_s, tl_n, g0, gS, ex1, nb_b, nb_0, nb_1, nf_i, nf_l, nf_ra, nf_ro, nf_na, nf_no, nf_b0, nf_z0, t45_4, t45_5, true_and, and_true, List.set_cons_zero, List.set_cons_succ, List.length_cons, List.length_nil, rd_s, upw_s, ne_eq, not_false_eq_true, Nat.zero_add, Nat.add_zero]
      | split
      | with_reducible intro _
      | omega
set_option maxHeartbeats 4000000 in
theorem sX1_isEachFoundInPile  (hC : CC g w0 x nA cA lA kn w) (hQ : ∀ v : Bool, Q (.inl (some (.int (bI v)))) w) : WP (MX1_isEachFoundInPile g) Q (0, [some (.ref x), none, none], [], w, 0, 0) := by
  obtain ⟨n, rf, md, f, gc, gl, hx, hn, hc, hl, hgc, hgl, hn0, hn1, rx, rn, rc, rl, ⟨d1, d2, d3, d4, d5, d6⟩, ⟨d7, d8, d9, d10, d11, d12⟩⟩ := hC.1.opn g
  have hQt : Q (.inl (some (.int 1))) w := hQ true
  have hQf : Q (.inl (some (.int 0))) w := hQ false
  repeat' first
    | with_reducible assumption
    | with_reducible refine And.intro ?_ ?_
    | with_reducible exact vpi6 (by assumption) (by assumption)
    | with_reducible exact vpi8 (by assumption) (by assumption)
    | with_reducible exact lX1_isEachFoundInPile_2 hC hQ _ _ _ _ _ _ ⟨hx, hn, hc, hl, hgc, hgl, hn0, hn1, rx, rn, rc, rl, ⟨d1, d2, d3, d4, d5, d6⟩, ⟨d7, d8, d9, d10, d11, d12⟩⟩ 70 _ _ _ _ (by first | decide | assumption) (by first | decide | exact n12 (by assumption) | exact n60 (by assumption)) (by first | decide | omega) (by first | decide | omega)
    | with_reducible refine sX1_firstPlaceOf (by first | assumption | exact CC.ext (by assumption) (by assumption)) (by first | assumption | exact hgc _ _ (by assumption) | exact hgl _ _ (by assumption) | exact isR.ext (by assumption) (by assumption)) ?_
    | with_reducible refine go_R (by first | assumption | exact hgc _ _ (by assumption) | exact hgl _ _ (by assumption) | exact isR.ext (by assumption) (by assumption)) ?_
    | with_reducible exact hQ _
    | with_reducible exact hQt
    | with_reducible exact hQf
    | simp only [eX1_isEachFoundInPile_0, eX1_isEachFoundInPile_1, eX1_isEachFoundInPile_3, eX1_isEachFoundInPile_3N, eX1_isEachFoundInPile_4, eX1_isEachFoundInPile_7, eX1_isEachFoundInPile_10, eX1_isEachFoundInPile_10N, eX1_isEachFoundInPile_11, eX1_isEachFoundInPile_14, eX1_isEachFoundInPile_15, eX1_isEachFoundInPile_16, eX1_isEachFoundInPile_16N, eX1_isEachFoundInPile_17, eX1_isEachFoundInPile_17N, eX1_isEachFoundInPile_18R, eX1_isEachFoundInPile_18N, eX1_isEachFoundInPile_21, eX1_isEachFoundInPile_21N, eX1_isEachFoundInPile_22, eX1_isEachFoundInPile_22N, eX1_isEachFoundInPile_23R, eX1_isEachFoundInPile_23N, eX1_isEachFoundInPile_26, eX1_isEachFoundInPile_27, eX1_isEachFoundInPile_30, eX1_isEachFoundInPile_31, eX1_isEachFoundInPile_32, eX1_isEachFoundInPile_35, eX1_isEachFoundInPile_38, eX1_isEachFoundInPile_39, rx, rn, rc, rl, hx, hn, hc, hl, d1, d2, d3, d4, d5, d6, d7, d8, d9, d10, d11, d12, rd_n, upw_n, ite_le, n45, n54, true_or, or_true, false_or, or_false, false_and, and_false, kx_l, kx_r, go_s, gl_s, gi_s, gb_s2, gb_s3, gq_s, wt_nil, wt_int, wt_long, wt_ref, wt_null, nl_int, nl_long, nl_ref, nl_null, nl_none, rf_n, rf_s, rf_st, tl_s, tl_n, g0, gS, ex1, nb_b, nb_0, nb_1, nf_i, nf_l, nf_ra, nf_ro, nf_na, nf_no, nf_b0, nf_z0, t45_4, t45_5, true_and, and_true, List.set_cons_zero, List.set_cons_succ, List.length_cons, List.length_nil, rd_s, upw_s, ne_eq, not_false_eq_true, Nat.zero_add, Nat.add_zero]
    | split
    | with_reducible intro _
    | omega
set_option maxHeartbeats 4000000 in
theorem sX1_with {a0 : Int64} {a1 : Int64} (hQ : ∀ v : Int64, Q (.inl (some (.long v))) w) : WP (MX1_with g) Q (0, [some (.long a0), none, some (.long a1), none], [], w, 0, 0) := by
  repeat' first
    | with_reducible assumption
    | with_reducible refine And.intro ?_ ?_
    | with_reducible exact vpi6 (by assumption) (by assumption)
    | with_reducible exact vpi8 (by assumption) (by assumption)
    | with_reducible refine go_R (by assumption) ?_
    | with_reducible exact hQ _
    | simp only [eX1_with_0, eX1_with_1, eX1_with_4, eX1_with_5, eX1_with_6, eX1_with_7, ite_le, n45, n54, true_or, or_true, false_or, or_false, false_and, and_false, kx_l, kx_r, go_s, gl_s, gi_s, gb_s2, gb_s3, gq_s, wt_nil, wt_int, wt_long, wt_ref, wt_null, nl_int, nl_long, nl_ref, nl_null, nl_none, rf_n, rf_s, rf_st, tl_s, tl_n, g0, gS, ex1, nb_b, nb_0, nb_1, nf_i, nf_l, nf_ra, nf_ro, nf_na, nf_no, nf_b0, nf_z0, t45_4, t45_5, true_and, and_true, List.set_cons_zero, List.set_cons_succ, List.length_cons, List.length_nil, rd_s, upw_s, ne_eq, not_false_eq_true, Nat.zero_add, Nat.add_zero]
    | split
    | with_reducible intro _
    | omega
end
end
/-! 67.22.class5.lean.txt -/
section
section
variable {g : RO} {Q : Ot → Hw → Prop} {w0 w : Hw} {x nA cA lA : Nat} {kn : Int32}
set_option maxHeartbeats 4000000 in
theorem lX1_withHouse_5 {a0 : Int64} (hC : CC g w0 x nA cA lA kn w) (hQ : ∀ v : Int64, Q (.inl (some (.long v))) w) : ∀ (n rf md : Int32) (f : Nat → Int64) (gc gl : Nat → Option Nat), RO5 g w x nA cA lA n rf kn md f gc gl → ∀ (d : Nat) (i3 : Int64) (i5 : Int32) (k m : Nat), ¬ i5 < 0 → (4 : Int32).toInt + 1 - i5.toInt ≤ (d : Int) → k ≤ 0 → m ≤ 0 → WP (MX1_withHouse g) Q (5, [some (.ref x), some (.long a0), none, some (.long i3), none, some (.int i5)], [], w, k, m) := by
  rintro n rf md f gc gl ⟨hx, hn, hc, hl, hgc, hgl, hn0, hn1, rx, rn, rc, rl, ⟨d1, d2, d3, d4, d5, d6⟩, ⟨d7, d8, d9, d10, d11, d12⟩⟩ d
  induction d with
  | zero =>
    intro i3 i5 k m z0 hm hk hs
    rw [eX1_withHouse_5]
    repeat' first
      | with_reducible assumption
      | with_reducible refine And.intro ?_ ?_
      | with_reducible exact vpi6 (by assumption) (by assumption)
      | with_reducible exact vpi8 (by assumption) (by assumption)
      | with_reducible exact (ic_zl (by assumption) (by assumption)).elim
      | with_reducible exact vpi12 (by assumption) (by assumption) (by assumption)
      | with_reducible refine sX1_houseCount (by first | assumption | exact CC.ext (by assumption) (by assumption)) ?_
      | with_reducible refine sX1_with ?_
      | with_reducible refine go_R (by first | assumption | exact hgc _ _ (by assumption) | exact hgl _ _ (by assumption) | exact isR.ext (by assumption) (by assumption)) ?_
      | with_reducible exact hQ _
      | simp only [eX1_withHouse_0, eX1_withHouse_1, eX1_withHouse_2, eX1_withHouse_3, eX1_withHouse_7, eX1_withHouse_8, eX1_withHouse_11, eX1_withHouse_12, eX1_withHouse_12N, eX1_withHouse_13, eX1_withHouse_15, eX1_withHouse_18, eX1_withHouse_19, eX1_withHouse_22, eX1_withHouse_23, eX1_withHouse_26, eX1_withHouse_29, eX1_withHouse_30, rx, rn, rc, rl, hx, hn, hc, hl, d1, d2, d3, d4, d5, d6, d7, d8, d9, d10, d11, d12, rd_n, upw_n, ite_le, n45, n54, true_or, or_true, false_or, or_false, false_and, and_false, kx_l, kx_r, go_s, gl_s, gi_s, gb_s2, gb_s3, gq_s, wt_nil, wt_int, wt_long, wt_ref, wt_null, nl_int, nl_long, nl_ref, nl_null, nl_none, rf_n, rf_s, rf_st, tl_s, tl_n, g0, gS, ex1, nb_b, nb_0, nb_1, nf_i, nf_l, nf_ra, nf_ro, nf_na, nf_no, nf_b0, nf_z0, t45_4, t45_5, true_and, and_true, List.set_cons_zero, List.set_cons_succ, List.length_cons, List.length_nil, rd_s, upw_s, ne_eq, not_false_eq_true, Nat.zero_add, Nat.add_zero]
      | split
      | with_reducible intro _
      | omega
  | succ d ih =>
    intro i3 i5 k m z0 hm hk hs
    rw [eX1_withHouse_5]
    repeat' first
      | with_reducible assumption
      | with_reducible refine And.intro ?_ ?_
      | with_reducible exact vpi6 (by assumption) (by assumption)
      | with_reducible exact vpi8 (by assumption) (by assumption)
      | with_reducible exact ih _ _ _ _ (ic_pl (by assumption) (by assumption) (by decide)) (ic_sl (by assumption) (by assumption) (by decide)) (by first | assumption | omega) (by first | assumption | omega)
      | with_reducible exact vpi12 (by assumption) (by assumption) (by assumption)
      | with_reducible refine sX1_houseCount (by first | assumption | exact CC.ext (by assumption) (by assumption)) ?_
      | with_reducible refine sX1_with ?_
      | with_reducible refine go_R (by first | assumption | exact hgc _ _ (by assumption) | exact hgl _ _ (by assumption) | exact isR.ext (by assumption) (by assumption)) ?_
      | with_reducible exact hQ _
      | simp only [eX1_withHouse_0, eX1_withHouse_1, eX1_withHouse_2, eX1_withHouse_3, eX1_withHouse_7, eX1_withHouse_8, eX1_withHouse_11, eX1_withHouse_12, eX1_withHouse_12N, eX1_withHouse_13, eX1_withHouse_15, eX1_withHouse_18, eX1_withHouse_19, eX1_withHouse_22, eX1_withHouse_23, eX1_withHouse_26, eX1_withHouse_29, eX1_withHouse_30, rx, rn, rc, rl, hx, hn, hc, hl, d1, d2, d3, d4, d5, d6, d7, d8, d9, d10, d11, d12, rd_n, upw_n, ite_le, n45, n54, true_or, or_true, false_or, or_false, false_and, and_false, kx_l, kx_r, go_s, gl_s, gi_s, gb_s2, gb_s3, gq_s, wt_nil, wt_int, wt_long, wt_ref, wt_null, nl_int, nl_long, nl_ref, nl_null, nl_none, rf_n, rf_s, rf_st, tl_s, tl_n, g0, gS, ex1, nb_b, nb_0, nb_1, nf_i, nf_l, nf_ra, nf_ro, nf_na, nf_no, nf_b0, nf_z0, t45_4, t45_5, true_and, and_true, List.set_cons_zero, List.set_cons_succ, List.length_cons, List.length_nil, rd_s, upw_s, ne_eq, not_false_eq_true, Nat.zero_add, Nat.add_zero]
      | split
      | with_reducible intro _
      | omega
set_option maxHeartbeats 4000000 in
theorem sX1_withHouse {a0 : Int64} (hC : CC g w0 x nA cA lA kn w) (hQ : ∀ v : Int64, Q (.inl (some (.long v))) w) : WP (MX1_withHouse g) Q (0, [some (.ref x), some (.long a0), none, none, none, none], [], w, 0, 0) := by
  obtain ⟨n, rf, md, f, gc, gl, hx, hn, hc, hl, hgc, hgl, hn0, hn1, rx, rn, rc, rl, ⟨d1, d2, d3, d4, d5, d6⟩, ⟨d7, d8, d9, d10, d11, d12⟩⟩ := hC.1.opn g
  repeat' first
    | with_reducible assumption
    | with_reducible refine And.intro ?_ ?_
    | with_reducible exact vpi6 (by assumption) (by assumption)
    | with_reducible exact vpi8 (by assumption) (by assumption)
    | with_reducible exact lX1_withHouse_5 hC hQ _ _ _ _ _ _ ⟨hx, hn, hc, hl, hgc, hgl, hn0, hn1, rx, rn, rc, rl, ⟨d1, d2, d3, d4, d5, d6⟩, ⟨d7, d8, d9, d10, d11, d12⟩⟩ 70 _ _ _ _ (by first | decide | assumption) (by first | decide | exact n12 (by assumption) | exact n60 (by assumption)) (by first | decide | omega) (by first | decide | omega)
    | with_reducible refine sX1_houseCount (by first | assumption | exact CC.ext (by assumption) (by assumption)) ?_
    | with_reducible refine sX1_with ?_
    | with_reducible refine go_R (by first | assumption | exact hgc _ _ (by assumption) | exact hgl _ _ (by assumption) | exact isR.ext (by assumption) (by assumption)) ?_
    | with_reducible exact hQ _
    | simp only [eX1_withHouse_0, eX1_withHouse_1, eX1_withHouse_2, eX1_withHouse_3, eX1_withHouse_7, eX1_withHouse_8, eX1_withHouse_11, eX1_withHouse_12, eX1_withHouse_12N, eX1_withHouse_13, eX1_withHouse_15, eX1_withHouse_18, eX1_withHouse_19, eX1_withHouse_22, eX1_withHouse_23, eX1_withHouse_26, eX1_withHouse_29, eX1_withHouse_30, rx, rn, rc, rl, hx, hn, hc, hl, d1, d2, d3, d4, d5, d6, d7, d8, d9, d10, d11, d12, rd_n, upw_n, ite_le, n45, n54, true_or, or_true, false_or, or_false, false_and, and_false, kx_l, kx_r, go_s, gl_s, gi_s, gb_s2, gb_s3, gq_s, wt_nil, wt_int, wt_long, wt_ref, wt_null, nl_int, nl_long, nl_ref, nl_null, nl_none, rf_n, rf_s, rf_st, tl_s, tl_n, g0, gS, ex1, nb_b, nb_0, nb_1, nf_i, nf_l, nf_ra, nf_ro, nf_na, nf_no, nf_b0, nf_z0, t45_4, t45_5, true_and, and_true, List.set_cons_zero, List.set_cons_succ, List.length_cons, List.length_nil, rd_s, upw_s, ne_eq, not_false_eq_true, Nat.zero_add, Nat.add_zero]
    | split
    | with_reducible intro _
    | omega
set_option maxHeartbeats 4000000 in
theorem sX1_withNumber {a0 : Int64} {a1 : Int64} (hC : CC g w0 x nA cA lA kn w) (hQ : ∀ v : Int64, Q (.inl (some (.long v))) w) : WP (MX1_withNumber g) Q (0, [some (.ref x), some (.long a0), none, some (.long a1), none, none, none], [], w, 0, 0) := by
  obtain ⟨n, rf, md, f, gc, gl, hx, hn, hc, hl, hgc, hgl, hn0, hn1, rx, rn, rc, rl, ⟨d1, d2, d3, d4, d5, d6⟩, ⟨d7, d8, d9, d10, d11, d12⟩⟩ := hC.1.opn g
  repeat' first
    | with_reducible assumption
    | with_reducible refine And.intro ?_ ?_
    | with_reducible exact vpi6 (by assumption) (by assumption)
    | with_reducible exact vpi8 (by assumption) (by assumption)
    | with_reducible refine sX1_highOf ?_
    | with_reducible refine sX1_with ?_
    | with_reducible refine sX1_lowOf ?_
    | with_reducible refine sX1_holdersOf (by first | assumption | exact CC.ext (by assumption) (by assumption)) ?_
    | with_reducible refine go_R (by first | assumption | exact hgc _ _ (by assumption) | exact hgl _ _ (by assumption) | exact isR.ext (by assumption) (by assumption)) ?_
    | with_reducible exact hQ _
    | simp only [eX1_withNumber_0, eX1_withNumber_1, eX1_withNumber_2, eX1_withNumber_5, eX1_withNumber_6, eX1_withNumber_9, eX1_withNumber_11, eX1_withNumber_13, eX1_withNumber_14, eX1_withNumber_17, eX1_withNumber_18, eX1_withNumber_21, eX1_withNumber_23, eX1_withNumber_25, eX1_withNumber_25N, eX1_withNumber_26, eX1_withNumber_27, eX1_withNumber_28, eX1_withNumber_31, eX1_withNumber_32, eX1_withNumber_35, eX1_withNumber_37, eX1_withNumber_39, eX1_withNumber_39N, eX1_withNumber_40, eX1_withNumber_41, eX1_withNumber_42, eX1_withNumber_45, eX1_withNumber_46, eX1_withNumber_49, rx, rn, rc, rl, hx, hn, hc, hl, d1, d2, d3, d4, d5, d6, d7, d8, d9, d10, d11, d12, rd_n, upw_n, ite_le, n45, n54, true_or, or_true, false_or, or_false, false_and, and_false, kx_l, kx_r, go_s, gl_s, gi_s, gb_s2, gb_s3, gq_s, wt_nil, wt_int, wt_long, wt_ref, wt_null, nl_int, nl_long, nl_ref, nl_null, nl_none, rf_n, rf_s, rf_st, tl_s, tl_n, g0, gS, ex1, nb_b, nb_0, nb_1, nf_i, nf_l, nf_ra, nf_ro, nf_na, nf_no, nf_b0, nf_z0, t45_4, t45_5, true_and, and_true, List.set_cons_zero, List.set_cons_succ, List.length_cons, List.length_nil, rd_s, upw_s, ne_eq, not_false_eq_true, Nat.zero_add, Nat.add_zero]
    | split
    | with_reducible intro _
    | omega
set_option maxHeartbeats 4000000 in
theorem lX1_withEnds_5 {a0 : Int64} {a1 : Nat} (h1 : isR w a1) (hQ : ∀ v : Int64, Q (.inl (some (.long v))) w) : ∀ (d : Nat) (i3 : Int64) (i5 : Int32) (i6 : Option Value) (i7 : Option Value) (k m : Nat), ¬ i5 < 0 → (4 : Int32).toInt - i5.toInt ≤ (d : Int) → k ≤ 0 → m ≤ 0 → WP (MX1_withEnds g) Q (5, [some (.long a0), none, some (.ref a1), some (.long i3), none, some (.int i5), i6, i7], [], w, k, m) := by
  intro d
  induction d with
  | zero =>
    intro i3 i5 i6 i7 k m z0 hm hk hs
    rw [eX1_withEnds_5]
    repeat' first
      | with_reducible assumption
      | with_reducible refine And.intro ?_ ?_
      | with_reducible exact vpi6 (by assumption) (by assumption)
      | with_reducible exact vpi8 (by assumption) (by assumption)
      | with_reducible exact (ic_z (by assumption) (by assumption)).elim
      | with_reducible exact vpi12 (by assumption) (by assumption) (by assumption)
      | with_reducible refine sX0_endAt (by first | assumption | exact hgc _ _ (by assumption) | exact hgl _ _ (by assumption) | exact isR.ext (by assumption) (by assumption)) ?_
      | with_reducible refine sX1_highOf ?_
      | with_reducible refine sX1_with ?_
      | with_reducible refine sX1_lowOf ?_
      | with_reducible refine sX1_neighboursIn (by first | assumption | exact hgc _ _ (by assumption) | exact hgl _ _ (by assumption) | exact isR.ext (by assumption) (by assumption)) ?_
      | with_reducible refine go_R (by assumption) ?_
      | with_reducible exact hQ _
      | simp only [eX1_withEnds_0, eX1_withEnds_1, eX1_withEnds_2, eX1_withEnds_3, eX1_withEnds_7, eX1_withEnds_8, eX1_withEnds_11, eX1_withEnds_11N, eX1_withEnds_12, eX1_withEnds_14, eX1_withEnds_17, eX1_withEnds_19, eX1_withEnds_20, eX1_withEnds_22, eX1_withEnds_25, eX1_withEnds_26, eX1_withEnds_29, eX1_withEnds_30, eX1_withEnds_31, eX1_withEnds_33, eX1_withEnds_36, eX1_withEnds_37, eX1_withEnds_40, eX1_withEnds_41, eX1_withEnds_42, eX1_withEnds_42N, eX1_withEnds_43, eX1_withEnds_45, eX1_withEnds_46R, eX1_withEnds_46N, eX1_withEnds_49, eX1_withEnds_50, eX1_withEnds_53, eX1_withEnds_54, eX1_withEnds_55, eX1_withEnds_55N, eX1_withEnds_56, eX1_withEnds_58, eX1_withEnds_59R, eX1_withEnds_59N, eX1_withEnds_62, eX1_withEnds_63, eX1_withEnds_66, eX1_withEnds_67, eX1_withEnds_70, eX1_withEnds_73, eX1_withEnds_74, ite_le, n45, n54, true_or, or_true, false_or, or_false, false_and, and_false, kx_l, kx_r, go_s, gl_s, gi_s, gb_s2, gb_s3, gq_s, wt_nil, wt_int, wt_long, wt_ref, wt_null, nl_int, nl_long, nl_ref, nl_null, nl_none, rf_n, rf_s, rf_st, tl_s, tl_n, g0, gS, ex1, nb_b, nb_0, nb_1, nf_i, nf_l, nf_ra, nf_ro, nf_na, nf_no, nf_b0, nf_z0, t45_4, t45_5, true_and, and_true, List.set_cons_zero, List.set_cons_succ, List.length_cons, List.length_nil, rd_s, upw_s, ne_eq, not_false_eq_true, Nat.zero_add, Nat.add_zero]
      | split
      | with_reducible intro _
      | omega
  | succ d ih =>
    intro i3 i5 i6 i7 k m z0 hm hk hs
    rw [eX1_withEnds_5]
    repeat' first
      | with_reducible assumption
      | with_reducible refine And.intro ?_ ?_
      | with_reducible exact vpi6 (by assumption) (by assumption)
      | with_reducible exact vpi8 (by assumption) (by assumption)
      | with_reducible exact ih _ _ _ _ _ _ (ic_p (by assumption) (by assumption)) (ic_s (by assumption) (by assumption)) (by first | assumption | omega) (by first | assumption | omega)
      | with_reducible exact vpi12 (by assumption) (by assumption) (by assumption)
      | with_reducible refine sX0_endAt (by first | assumption | exact hgc _ _ (by assumption) | exact hgl _ _ (by assumption) | exact isR.ext (by assumption) (by assumption)) ?_
      | with_reducible refine sX1_highOf ?_
      | with_reducible refine sX1_with ?_
      | with_reducible refine sX1_lowOf ?_
      | with_reducible refine sX1_neighboursIn (by first | assumption | exact hgc _ _ (by assumption) | exact hgl _ _ (by assumption) | exact isR.ext (by assumption) (by assumption)) ?_
      | with_reducible refine go_R (by assumption) ?_
      | with_reducible exact hQ _
      | simp only [eX1_withEnds_0, eX1_withEnds_1, eX1_withEnds_2, eX1_withEnds_3, eX1_withEnds_7, eX1_withEnds_8, eX1_withEnds_11, eX1_withEnds_11N, eX1_withEnds_12, eX1_withEnds_14, eX1_withEnds_17, eX1_withEnds_19, eX1_withEnds_20, eX1_withEnds_22, eX1_withEnds_25, eX1_withEnds_26, eX1_withEnds_29, eX1_withEnds_30, eX1_withEnds_31, eX1_withEnds_33, eX1_withEnds_36, eX1_withEnds_37, eX1_withEnds_40, eX1_withEnds_41, eX1_withEnds_42, eX1_withEnds_42N, eX1_withEnds_43, eX1_withEnds_45, eX1_withEnds_46R, eX1_withEnds_46N, eX1_withEnds_49, eX1_withEnds_50, eX1_withEnds_53, eX1_withEnds_54, eX1_withEnds_55, eX1_withEnds_55N, eX1_withEnds_56, eX1_withEnds_58, eX1_withEnds_59R, eX1_withEnds_59N, eX1_withEnds_62, eX1_withEnds_63, eX1_withEnds_66, eX1_withEnds_67, eX1_withEnds_70, eX1_withEnds_73, eX1_withEnds_74, ite_le, n45, n54, true_or, or_true, false_or, or_false, false_and, and_false, kx_l, kx_r, go_s, gl_s, gi_s, gb_s2, gb_s3, gq_s, wt_nil, wt_int, wt_long, wt_ref, wt_null, nl_int, nl_long, nl_ref, nl_null, nl_none, rf_n, rf_s, rf_st, tl_s, tl_n, g0, gS, ex1, nb_b, nb_0, nb_1, nf_i, nf_l, nf_ra, nf_ro, nf_na, nf_no, nf_b0, nf_z0, t45_4, t45_5, true_and, and_true, List.set_cons_zero, List.set_cons_succ, List.length_cons, List.length_nil, rd_s, upw_s, ne_eq, not_false_eq_true, Nat.zero_add, Nat.add_zero]
      | split
      | with_reducible intro _
      | omega
set_option maxHeartbeats 4000000 in
theorem sX1_withEnds {a0 : Int64} {a1 : Nat} (h1 : isR w a1) (hQ : ∀ v : Int64, Q (.inl (some (.long v))) w) : WP (MX1_withEnds g) Q (0, [some (.long a0), none, some (.ref a1), none, none, none, none, none], [], w, 0, 0) := by
  repeat' first
    | with_reducible assumption
    | with_reducible refine And.intro ?_ ?_
    | with_reducible exact vpi6 (by assumption) (by assumption)
    | with_reducible exact vpi8 (by assumption) (by assumption)
    | with_reducible exact lX1_withEnds_5 h1 hQ 70 _ _ _ _ _ _ (by first | decide | assumption) (by first | decide | exact n12 (by assumption) | exact n60 (by assumption)) (by first | decide | omega) (by first | decide | omega)
    | with_reducible refine sX0_endAt (by first | assumption | exact hgc _ _ (by assumption) | exact hgl _ _ (by assumption) | exact isR.ext (by assumption) (by assumption)) ?_
    | with_reducible refine sX1_highOf ?_
    | with_reducible refine sX1_with ?_
    | with_reducible refine sX1_lowOf ?_
    | with_reducible refine sX1_neighboursIn (by first | assumption | exact hgc _ _ (by assumption) | exact hgl _ _ (by assumption) | exact isR.ext (by assumption) (by assumption)) ?_
    | with_reducible refine go_R (by assumption) ?_
    | with_reducible exact hQ _
    | simp only [eX1_withEnds_0, eX1_withEnds_1, eX1_withEnds_2, eX1_withEnds_3, eX1_withEnds_7, eX1_withEnds_8, eX1_withEnds_11, eX1_withEnds_11N, eX1_withEnds_12, eX1_withEnds_14, eX1_withEnds_17, eX1_withEnds_19, eX1_withEnds_20, eX1_withEnds_22, eX1_withEnds_25, eX1_withEnds_26, eX1_withEnds_29, eX1_withEnds_30, eX1_withEnds_31, eX1_withEnds_33, eX1_withEnds_36, eX1_withEnds_37, eX1_withEnds_40, eX1_withEnds_41, eX1_withEnds_42, eX1_withEnds_42N, eX1_withEnds_43, eX1_withEnds_45, eX1_withEnds_46R, eX1_withEnds_46N, eX1_withEnds_49, eX1_withEnds_50, eX1_withEnds_53, eX1_withEnds_54, eX1_withEnds_55, eX1_withEnds_55N, eX1_withEnds_56, eX1_withEnds_58, eX1_withEnds_59R, eX1_withEnds_59N, eX1_withEnds_62, eX1_withEnds_63, eX1_withEnds_66, eX1_withEnds_67, eX1_withEnds_70, eX1_withEnds_73, eX1_withEnds_74, ite_le, n45, n54, true_or, or_true, false_or, or_false, false_and, and_false, kx_l, kx_r, go_s, gl_s, gi_s, gb_s2, gb_s3, gq_s, wt_nil, wt_int, wt_long, wt_ref, wt_null, nl_int, nl_long, nl_ref, nl_null, nl_none, rf_n, rf_s, rf_st, tl_s, tl_n, g0, gS, ex1, nb_b, nb_0, nb_1, nf_i, nf_l, nf_ra, nf_ro, nf_na, nf_no, nf_b0, nf_z0, t45_4, t45_5, true_and, and_true, List.set_cons_zero, List.set_cons_succ, List.length_cons, List.length_nil, rd_s, upw_s, ne_eq, not_false_eq_true, Nat.zero_add, Nat.add_zero]
    | split
    | with_reducible intro _
    | omega
end
end
/-! 67.22.class6.lean.txt -/
section
section
variable {g : RO} {Q : Ot → Hw → Prop} {w0 w : Hw} {x nA cA lA : Nat} {kn : Int32}
set_option maxHeartbeats 4000000 in
theorem lX1_withCard_106R {a0 : Int64} {a1 : Nat} (hC : CC g w0 x nA cA lA kn w) (h1 : isR w a1) (hQ : ∀ v : Int64, Q (.inl (some (.long v))) w) : ∀ (n rf md : Int32) (f : Nat → Int64) (gc gl : Nat → Option Nat), RO5 g w x nA cA lA n rf kn md f gc gl → ∀ (d : Nat) (i4 : Int64) (i6 : Int32) (k m : Nat), (1 : Int32).toInt + 1 - i6.toInt ≤ (d : Int) → k ≤ 0 → m ≤ 0 → WP (MX1_withCard g) Q (106, [some (.ref x), some (.long a0), none, some (.ref a1), some (.long i4), none, some (.int i6)], [], w, k, m) := by
  rintro n rf md f gc gl ⟨hx, hn, hc, hl, hgc, hgl, hn0, hn1, rx, rn, rc, rl, ⟨d1, d2, d3, d4, d5, d6⟩, ⟨d7, d8, d9, d10, d11, d12⟩⟩ d
  induction d with
  | zero =>
    intro i4 i6 k m hm hk hs
    rw [eX1_withCard_106]
    repeat' first
      | with_reducible assumption
      | with_reducible refine And.intro ?_ ?_
      | with_reducible exact vpi6 (by assumption) (by assumption)
      | with_reducible exact vpi8 (by assumption) (by assumption)
      | with_reducible exact (ic_zl (by assumption) (by assumption)).elim
      | with_reducible exact vpi12 (by assumption) (by assumption) (by assumption)
      | with_reducible refine sX1_with ?_
      | with_reducible refine sX1_withEnds (by first | assumption | exact hgc _ _ (by assumption) | exact hgl _ _ (by assumption) | exact isR.ext (by assumption) (by assumption)) ?_
      | with_reducible refine sX0_isSettled (by first | assumption | exact hgc _ _ (by assumption) | exact hgl _ _ (by assumption) | exact isR.ext (by assumption) (by assumption)) ?_
      | with_reducible refine sX1_asNumber ?_
      | with_reducible refine sX0_fitsSmall (by first | assumption | exact hgc _ _ (by assumption) | exact hgl _ _ (by assumption) | exact isR.ext (by assumption) (by assumption)) ?_
      | with_reducible refine sX1_cardsLike (by first | assumption | exact CC.ext (by assumption) (by assumption)) (by first | assumption | exact hgc _ _ (by assumption) | exact hgl _ _ (by assumption) | exact isR.ext (by assumption) (by assumption)) ?_
      | with_reducible refine sX1_firstPlaceOf (by first | assumption | exact CC.ext (by assumption) (by assumption)) (by first | assumption | exact hgc _ _ (by assumption) | exact hgl _ _ (by assumption) | exact isR.ext (by assumption) (by assumption)) ?_
      | with_reducible refine sX1_lastPlaceOf (by first | assumption | exact CC.ext (by assumption) (by assumption)) (by first | assumption | exact hgc _ _ (by assumption) | exact hgl _ _ (by assumption) | exact isR.ext (by assumption) (by assumption)) ?_
      | with_reducible refine sX1_timesLaid (by first | assumption | exact CC.ext (by assumption) (by assumption)) (by first | assumption | exact hgc _ _ (by assumption) | exact hgl _ _ (by assumption) | exact isR.ext (by assumption) (by assumption)) ?_
      | with_reducible refine sX1_validityIn (by first | assumption | exact hgc _ _ (by assumption) | exact hgl _ _ (by assumption) | exact isR.ext (by assumption) (by assumption)) ?_
      | with_reducible refine go_R (by first | assumption | exact hgc _ _ (by assumption) | exact hgl _ _ (by assumption) | exact isR.ext (by assumption) (by assumption)) ?_
      | with_reducible exact hQ _
      | simp only [eX1_withCard_0, eX1_withCard_0N, eX1_withCard_1R, eX1_withCard_1N, eX1_withCard_4, eX1_withCard_5, eX1_withCard_6, eX1_withCard_9, eX1_withCard_10, eX1_withCard_11, eX1_withCard_12, eX1_withCard_15, eX1_withCard_15N, eX1_withCard_16R, eX1_withCard_16N, eX1_withCard_19, eX1_withCard_21, eX1_withCard_23, eX1_withCard_23N, eX1_withCard_24, eX1_withCard_27, eX1_withCard_30, eX1_withCard_31, eX1_withCard_34, eX1_withCard_36, eX1_withCard_38, eX1_withCard_38N, eX1_withCard_39, eX1_withCard_42, eX1_withCard_45, eX1_withCard_46, eX1_withCard_49, eX1_withCard_51, eX1_withCard_53, eX1_withCard_53N, eX1_withCard_54, eX1_withCard_54N, eX1_withCard_55R, eX1_withCard_55N, eX1_withCard_58, eX1_withCard_59, eX1_withCard_62, eX1_withCard_64, eX1_withCard_66, eX1_withCard_66N, eX1_withCard_67, eX1_withCard_67N, eX1_withCard_68R, eX1_withCard_68N, eX1_withCard_71, eX1_withCard_72, eX1_withCard_75, eX1_withCard_77, eX1_withCard_79, eX1_withCard_79N, eX1_withCard_80, eX1_withCard_80N, eX1_withCard_81R, eX1_withCard_81N, eX1_withCard_84, eX1_withCard_85, eX1_withCard_88, eX1_withCard_90, eX1_withCard_92, eX1_withCard_92N, eX1_withCard_93, eX1_withCard_93N, eX1_withCard_94R, eX1_withCard_94N, eX1_withCard_97, eX1_withCard_98, eX1_withCard_101, eX1_withCard_103, eX1_withCard_104, eX1_withCard_108, eX1_withCard_109, eX1_withCard_112, eX1_withCard_114, eX1_withCard_114N, eX1_withCard_115, eX1_withCard_117, eX1_withCard_118R, eX1_withCard_118N, eX1_withCard_121, eX1_withCard_122, eX1_withCard_125, eX1_withCard_127, eX1_withCard_130, eX1_withCard_133, eX1_withCard_135, rx, rn, rc, rl, hx, hn, hc, hl, d1, d2, d3, d4, d5, d6, d7, d8, d9, d10, d11, d12, rd_n, upw_n, ite_le, n45, n54, true_or, or_true, false_or, or_false, false_and, and_false, kx_l, kx_r, go_s, gl_s, gi_s, gb_s2, gb_s3, gq_s, wt_nil, wt_int, wt_long, wt_ref, wt_null, nl_int, nl_long, nl_ref, nl_null, nl_none, rf_n, rf_s, rf_st, tl_s, tl_n, g0, gS, ex1, nb_b, nb_0, nb_1, nf_i, nf_l, nf_ra, nf_ro, nf_na, nf_no, nf_b0, nf_z0, t45_4, t45_5, true_and, and_true, List.set_cons_zero, List.set_cons_succ, List.length_cons, List.length_nil, rd_s, upw_s, ne_eq, not_false_eq_true, Nat.zero_add, Nat.add_zero]
      | split
      | with_reducible intro _
      | omega
  | succ d ih =>
    intro i4 i6 k m hm hk hs
    rw [eX1_withCard_106]
    repeat' first
      | with_reducible assumption
      | with_reducible refine And.intro ?_ ?_
      | with_reducible exact vpi6 (by assumption) (by assumption)
      | with_reducible exact vpi8 (by assumption) (by assumption)
      | with_reducible exact ih _ _ _ _ (ic_sl (by assumption) (by assumption) (by decide)) (by first | assumption | omega) (by first | assumption | omega)
      | with_reducible exact vpi12 (by assumption) (by assumption) (by assumption)
      | with_reducible refine sX1_with ?_
      | with_reducible refine sX1_withEnds (by first | assumption | exact hgc _ _ (by assumption) | exact hgl _ _ (by assumption) | exact isR.ext (by assumption) (by assumption)) ?_
      | with_reducible refine sX0_isSettled (by first | assumption | exact hgc _ _ (by assumption) | exact hgl _ _ (by assumption) | exact isR.ext (by assumption) (by assumption)) ?_
      | with_reducible refine sX1_asNumber ?_
      | with_reducible refine sX0_fitsSmall (by first | assumption | exact hgc _ _ (by assumption) | exact hgl _ _ (by assumption) | exact isR.ext (by assumption) (by assumption)) ?_
      | with_reducible refine sX1_cardsLike (by first | assumption | exact CC.ext (by assumption) (by assumption)) (by first | assumption | exact hgc _ _ (by assumption) | exact hgl _ _ (by assumption) | exact isR.ext (by assumption) (by assumption)) ?_
      | with_reducible refine sX1_firstPlaceOf (by first | assumption | exact CC.ext (by assumption) (by assumption)) (by first | assumption | exact hgc _ _ (by assumption) | exact hgl _ _ (by assumption) | exact isR.ext (by assumption) (by assumption)) ?_
      | with_reducible refine sX1_lastPlaceOf (by first | assumption | exact CC.ext (by assumption) (by assumption)) (by first | assumption | exact hgc _ _ (by assumption) | exact hgl _ _ (by assumption) | exact isR.ext (by assumption) (by assumption)) ?_
      | with_reducible refine sX1_timesLaid (by first | assumption | exact CC.ext (by assumption) (by assumption)) (by first | assumption | exact hgc _ _ (by assumption) | exact hgl _ _ (by assumption) | exact isR.ext (by assumption) (by assumption)) ?_
      | with_reducible refine sX1_validityIn (by first | assumption | exact hgc _ _ (by assumption) | exact hgl _ _ (by assumption) | exact isR.ext (by assumption) (by assumption)) ?_
      | with_reducible refine go_R (by first | assumption | exact hgc _ _ (by assumption) | exact hgl _ _ (by assumption) | exact isR.ext (by assumption) (by assumption)) ?_
      | with_reducible exact hQ _
      | simp only [eX1_withCard_0, eX1_withCard_0N, eX1_withCard_1R, eX1_withCard_1N, eX1_withCard_4, eX1_withCard_5, eX1_withCard_6, eX1_withCard_9, eX1_withCard_10, eX1_withCard_11, eX1_withCard_12, eX1_withCard_15, eX1_withCard_15N, eX1_withCard_16R, eX1_withCard_16N, eX1_withCard_19, eX1_withCard_21, eX1_withCard_23, eX1_withCard_23N, eX1_withCard_24, eX1_withCard_27, eX1_withCard_30, eX1_withCard_31, eX1_withCard_34, eX1_withCard_36, eX1_withCard_38, eX1_withCard_38N, eX1_withCard_39, eX1_withCard_42, eX1_withCard_45, eX1_withCard_46, eX1_withCard_49, eX1_withCard_51, eX1_withCard_53, eX1_withCard_53N, eX1_withCard_54, eX1_withCard_54N, eX1_withCard_55R, eX1_withCard_55N, eX1_withCard_58, eX1_withCard_59, eX1_withCard_62, eX1_withCard_64, eX1_withCard_66, eX1_withCard_66N, eX1_withCard_67, eX1_withCard_67N, eX1_withCard_68R, eX1_withCard_68N, eX1_withCard_71, eX1_withCard_72, eX1_withCard_75, eX1_withCard_77, eX1_withCard_79, eX1_withCard_79N, eX1_withCard_80, eX1_withCard_80N, eX1_withCard_81R, eX1_withCard_81N, eX1_withCard_84, eX1_withCard_85, eX1_withCard_88, eX1_withCard_90, eX1_withCard_92, eX1_withCard_92N, eX1_withCard_93, eX1_withCard_93N, eX1_withCard_94R, eX1_withCard_94N, eX1_withCard_97, eX1_withCard_98, eX1_withCard_101, eX1_withCard_103, eX1_withCard_104, eX1_withCard_108, eX1_withCard_109, eX1_withCard_112, eX1_withCard_114, eX1_withCard_114N, eX1_withCard_115, eX1_withCard_117, eX1_withCard_118R, eX1_withCard_118N, eX1_withCard_121, eX1_withCard_122, eX1_withCard_125, eX1_withCard_127, eX1_withCard_130, eX1_withCard_133, eX1_withCard_135, rx, rn, rc, rl, hx, hn, hc, hl, d1, d2, d3, d4, d5, d6, d7, d8, d9, d10, d11, d12, rd_n, upw_n, ite_le, n45, n54, true_or, or_true, false_or, or_false, false_and, and_false, kx_l, kx_r, go_s, gl_s, gi_s, gb_s2, gb_s3, gq_s, wt_nil, wt_int, wt_long, wt_ref, wt_null, nl_int, nl_long, nl_ref, nl_null, nl_none, rf_n, rf_s, rf_st, tl_s, tl_n, g0, gS, ex1, nb_b, nb_0, nb_1, nf_i, nf_l, nf_ra, nf_ro, nf_na, nf_no, nf_b0, nf_z0, t45_4, t45_5, true_and, and_true, List.set_cons_zero, List.set_cons_succ, List.length_cons, List.length_nil, rd_s, upw_s, ne_eq, not_false_eq_true, Nat.zero_add, Nat.add_zero]
      | split
      | with_reducible intro _
      | omega
set_option maxHeartbeats 4000000 in
theorem sX1_withCardR {a0 : Int64} {a1 : Nat} (hC : CC g w0 x nA cA lA kn w) (h1 : isR w a1) (hQ : ∀ v : Int64, Q (.inl (some (.long v))) w) : WP (MX1_withCard g) Q (0, [some (.ref x), some (.long a0), none, some (.ref a1), none, none, none], [], w, 0, 0) := by
  obtain ⟨n, rf, md, f, gc, gl, hx, hn, hc, hl, hgc, hgl, hn0, hn1, rx, rn, rc, rl, ⟨d1, d2, d3, d4, d5, d6⟩, ⟨d7, d8, d9, d10, d11, d12⟩⟩ := hC.1.opn g
  repeat' first
    | with_reducible assumption
    | with_reducible refine And.intro ?_ ?_
    | with_reducible exact vpi6 (by assumption) (by assumption)
    | with_reducible exact vpi8 (by assumption) (by assumption)
    | with_reducible exact lX1_withCard_106R hC h1 hQ _ _ _ _ _ _ ⟨hx, hn, hc, hl, hgc, hgl, hn0, hn1, rx, rn, rc, rl, ⟨d1, d2, d3, d4, d5, d6⟩, ⟨d7, d8, d9, d10, d11, d12⟩⟩ 70 _ _ _ _ (by first | decide | exact n12 (by assumption) | exact n60 (by assumption)) (by first | decide | omega) (by first | decide | omega)
    | with_reducible refine sX1_with ?_
    | with_reducible refine sX1_withEnds (by first | assumption | exact hgc _ _ (by assumption) | exact hgl _ _ (by assumption) | exact isR.ext (by assumption) (by assumption)) ?_
    | with_reducible refine sX0_isSettled (by first | assumption | exact hgc _ _ (by assumption) | exact hgl _ _ (by assumption) | exact isR.ext (by assumption) (by assumption)) ?_
    | with_reducible refine sX1_asNumber ?_
    | with_reducible refine sX0_fitsSmall (by first | assumption | exact hgc _ _ (by assumption) | exact hgl _ _ (by assumption) | exact isR.ext (by assumption) (by assumption)) ?_
    | with_reducible refine sX1_cardsLike (by first | assumption | exact CC.ext (by assumption) (by assumption)) (by first | assumption | exact hgc _ _ (by assumption) | exact hgl _ _ (by assumption) | exact isR.ext (by assumption) (by assumption)) ?_
    | with_reducible refine sX1_firstPlaceOf (by first | assumption | exact CC.ext (by assumption) (by assumption)) (by first | assumption | exact hgc _ _ (by assumption) | exact hgl _ _ (by assumption) | exact isR.ext (by assumption) (by assumption)) ?_
    | with_reducible refine sX1_lastPlaceOf (by first | assumption | exact CC.ext (by assumption) (by assumption)) (by first | assumption | exact hgc _ _ (by assumption) | exact hgl _ _ (by assumption) | exact isR.ext (by assumption) (by assumption)) ?_
    | with_reducible refine sX1_timesLaid (by first | assumption | exact CC.ext (by assumption) (by assumption)) (by first | assumption | exact hgc _ _ (by assumption) | exact hgl _ _ (by assumption) | exact isR.ext (by assumption) (by assumption)) ?_
    | with_reducible refine sX1_validityIn (by first | assumption | exact hgc _ _ (by assumption) | exact hgl _ _ (by assumption) | exact isR.ext (by assumption) (by assumption)) ?_
    | with_reducible refine go_R (by first | assumption | exact hgc _ _ (by assumption) | exact hgl _ _ (by assumption) | exact isR.ext (by assumption) (by assumption)) ?_
    | with_reducible exact hQ _
    | simp only [eX1_withCard_0, eX1_withCard_0N, eX1_withCard_1R, eX1_withCard_1N, eX1_withCard_4, eX1_withCard_5, eX1_withCard_6, eX1_withCard_9, eX1_withCard_10, eX1_withCard_11, eX1_withCard_12, eX1_withCard_15, eX1_withCard_15N, eX1_withCard_16R, eX1_withCard_16N, eX1_withCard_19, eX1_withCard_21, eX1_withCard_23, eX1_withCard_23N, eX1_withCard_24, eX1_withCard_27, eX1_withCard_30, eX1_withCard_31, eX1_withCard_34, eX1_withCard_36, eX1_withCard_38, eX1_withCard_38N, eX1_withCard_39, eX1_withCard_42, eX1_withCard_45, eX1_withCard_46, eX1_withCard_49, eX1_withCard_51, eX1_withCard_53, eX1_withCard_53N, eX1_withCard_54, eX1_withCard_54N, eX1_withCard_55R, eX1_withCard_55N, eX1_withCard_58, eX1_withCard_59, eX1_withCard_62, eX1_withCard_64, eX1_withCard_66, eX1_withCard_66N, eX1_withCard_67, eX1_withCard_67N, eX1_withCard_68R, eX1_withCard_68N, eX1_withCard_71, eX1_withCard_72, eX1_withCard_75, eX1_withCard_77, eX1_withCard_79, eX1_withCard_79N, eX1_withCard_80, eX1_withCard_80N, eX1_withCard_81R, eX1_withCard_81N, eX1_withCard_84, eX1_withCard_85, eX1_withCard_88, eX1_withCard_90, eX1_withCard_92, eX1_withCard_92N, eX1_withCard_93, eX1_withCard_93N, eX1_withCard_94R, eX1_withCard_94N, eX1_withCard_97, eX1_withCard_98, eX1_withCard_101, eX1_withCard_103, eX1_withCard_104, eX1_withCard_108, eX1_withCard_109, eX1_withCard_112, eX1_withCard_114, eX1_withCard_114N, eX1_withCard_115, eX1_withCard_117, eX1_withCard_118R, eX1_withCard_118N, eX1_withCard_121, eX1_withCard_122, eX1_withCard_125, eX1_withCard_127, eX1_withCard_130, eX1_withCard_133, eX1_withCard_135, rx, rn, rc, rl, hx, hn, hc, hl, d1, d2, d3, d4, d5, d6, d7, d8, d9, d10, d11, d12, rd_n, upw_n, ite_le, n45, n54, true_or, or_true, false_or, or_false, false_and, and_false, kx_l, kx_r, go_s, gl_s, gi_s, gb_s2, gb_s3, gq_s, wt_nil, wt_int, wt_long, wt_ref, wt_null, nl_int, nl_long, nl_ref, nl_null, nl_none, rf_n, rf_s, rf_st, tl_s, tl_n, g0, gS, ex1, nb_b, nb_0, nb_1, nf_i, nf_l, nf_ra, nf_ro, nf_na, nf_no, nf_b0, nf_z0, t45_4, t45_5, true_and, and_true, List.set_cons_zero, List.set_cons_succ, List.length_cons, List.length_nil, rd_s, upw_s, ne_eq, not_false_eq_true, Nat.zero_add, Nat.add_zero]
    | split
    | with_reducible intro _
    | omega
set_option maxHeartbeats 4000000 in
theorem sX1_withCardN {a0 : Int64} (hC : CC g w0 x nA cA lA kn w) (hQ : ∀ v : Int64, Q (.inl (some (.long v))) w) : WP (MX1_withCard g) Q (0, [some (.ref x), some (.long a0), none, some .null, none, none, none], [], w, 0, 0) := by
  obtain ⟨n, rf, md, f, gc, gl, hx, hn, hc, hl, hgc, hgl, hn0, hn1, rx, rn, rc, rl, ⟨d1, d2, d3, d4, d5, d6⟩, ⟨d7, d8, d9, d10, d11, d12⟩⟩ := hC.1.opn g
  repeat' first
    | with_reducible assumption
    | with_reducible refine And.intro ?_ ?_
    | with_reducible exact vpi6 (by assumption) (by assumption)
    | with_reducible exact vpi8 (by assumption) (by assumption)
    | with_reducible refine sX1_with ?_
    | with_reducible refine sX1_withEnds (by first | assumption | exact hgc _ _ (by assumption) | exact hgl _ _ (by assumption) | exact isR.ext (by assumption) (by assumption)) ?_
    | with_reducible refine sX0_isSettled (by first | assumption | exact hgc _ _ (by assumption) | exact hgl _ _ (by assumption) | exact isR.ext (by assumption) (by assumption)) ?_
    | with_reducible refine sX1_asNumber ?_
    | with_reducible refine sX0_fitsSmall (by first | assumption | exact hgc _ _ (by assumption) | exact hgl _ _ (by assumption) | exact isR.ext (by assumption) (by assumption)) ?_
    | with_reducible refine sX1_cardsLike (by first | assumption | exact CC.ext (by assumption) (by assumption)) (by first | assumption | exact hgc _ _ (by assumption) | exact hgl _ _ (by assumption) | exact isR.ext (by assumption) (by assumption)) ?_
    | with_reducible refine sX1_firstPlaceOf (by first | assumption | exact CC.ext (by assumption) (by assumption)) (by first | assumption | exact hgc _ _ (by assumption) | exact hgl _ _ (by assumption) | exact isR.ext (by assumption) (by assumption)) ?_
    | with_reducible refine sX1_lastPlaceOf (by first | assumption | exact CC.ext (by assumption) (by assumption)) (by first | assumption | exact hgc _ _ (by assumption) | exact hgl _ _ (by assumption) | exact isR.ext (by assumption) (by assumption)) ?_
    | with_reducible refine sX1_timesLaid (by first | assumption | exact CC.ext (by assumption) (by assumption)) (by first | assumption | exact hgc _ _ (by assumption) | exact hgl _ _ (by assumption) | exact isR.ext (by assumption) (by assumption)) ?_
    | with_reducible refine sX1_validityIn (by first | assumption | exact hgc _ _ (by assumption) | exact hgl _ _ (by assumption) | exact isR.ext (by assumption) (by assumption)) ?_
    | with_reducible refine go_R (by first | assumption | exact hgc _ _ (by assumption) | exact hgl _ _ (by assumption) | exact isR.ext (by assumption) (by assumption)) ?_
    | with_reducible exact hQ _
    | simp only [eX1_withCard_0, eX1_withCard_0N, eX1_withCard_1R, eX1_withCard_1N, eX1_withCard_4, eX1_withCard_5, eX1_withCard_6, eX1_withCard_9, eX1_withCard_10, eX1_withCard_11, eX1_withCard_12, eX1_withCard_15, eX1_withCard_15N, eX1_withCard_16R, eX1_withCard_16N, eX1_withCard_19, eX1_withCard_21, eX1_withCard_23, eX1_withCard_23N, eX1_withCard_24, eX1_withCard_27, eX1_withCard_30, eX1_withCard_31, eX1_withCard_34, eX1_withCard_36, eX1_withCard_38, eX1_withCard_38N, eX1_withCard_39, eX1_withCard_42, eX1_withCard_45, eX1_withCard_46, eX1_withCard_49, eX1_withCard_51, eX1_withCard_53, eX1_withCard_53N, eX1_withCard_54, eX1_withCard_54N, eX1_withCard_55R, eX1_withCard_55N, eX1_withCard_58, eX1_withCard_59, eX1_withCard_62, eX1_withCard_64, eX1_withCard_66, eX1_withCard_66N, eX1_withCard_67, eX1_withCard_67N, eX1_withCard_68R, eX1_withCard_68N, eX1_withCard_71, eX1_withCard_72, eX1_withCard_75, eX1_withCard_77, eX1_withCard_79, eX1_withCard_79N, eX1_withCard_80, eX1_withCard_80N, eX1_withCard_81R, eX1_withCard_81N, eX1_withCard_84, eX1_withCard_85, eX1_withCard_88, eX1_withCard_90, eX1_withCard_92, eX1_withCard_92N, eX1_withCard_93, eX1_withCard_93N, eX1_withCard_94R, eX1_withCard_94N, eX1_withCard_97, eX1_withCard_98, eX1_withCard_101, eX1_withCard_103, eX1_withCard_104, eX1_withCard_108, eX1_withCard_109, eX1_withCard_112, eX1_withCard_114, eX1_withCard_114N, eX1_withCard_115, eX1_withCard_117, eX1_withCard_118R, eX1_withCard_118N, eX1_withCard_121, eX1_withCard_122, eX1_withCard_125, eX1_withCard_127, eX1_withCard_130, eX1_withCard_133, eX1_withCard_135, rx, rn, rc, rl, hx, hn, hc, hl, d1, d2, d3, d4, d5, d6, d7, d8, d9, d10, d11, d12, rd_n, upw_n, ite_le, n45, n54, true_or, or_true, false_or, or_false, false_and, and_false, kx_l, kx_r, go_s, gl_s, gi_s, gb_s2, gb_s3, gq_s, wt_nil, wt_int, wt_long, wt_ref, wt_null, nl_int, nl_long, nl_ref, nl_null, nl_none, rf_n, rf_s, rf_st, tl_s, tl_n, g0, gS, ex1, nb_b, nb_0, nb_1, nf_i, nf_l, nf_ra, nf_ro, nf_na, nf_no, nf_b0, nf_z0, t45_4, t45_5, true_and, and_true, List.set_cons_zero, List.set_cons_succ, List.length_cons, List.length_nil, rd_s, upw_s, ne_eq, not_false_eq_true, Nat.zero_add, Nat.add_zero]
    | split
    | with_reducible intro _
    | omega
end
end
/-! 67.22.class7.lean.txt -/
section
section
variable {g : RO} {Q : Ot → Hw → Prop} {w0 w : Hw} {x nA cA lA : Nat} {kn : Int32}
theorem vp08 : vp_in 0 8 := vpi8 (by decide) (by decide)
theorem go_C (h : CC g w0 x nA cA lA kn w) : go (rd g w x) 5 (fun _ => True) := by
  obtain ⟨n, rf, md, f, gc, gl, hx, hn, hc, hl, hgc, hgl, hn0, hn1, rx, rn, rc, rl, ⟨d1, d2, d3, d4, d5, d6⟩, ⟨d7, d8, d9, d10, d11, d12⟩⟩ := h.1.opn g
  rw [rx, go_s]
  trivial
theorem isR.mono {w1 w2 : Hw} {b : Nat} (hm : ∀ b, isR w1 b → isR w2 b) (h : isR w1 b) : isR w2 b := hm b h
set_option maxHeartbeats 4000000 in
theorem lX1_withWhichAndPile_32 {a0 : Int64} (hC : CC g w0 x nA cA lA kn w) (hQ : ∀ v : Int64, Q (.inl (some (.long v))) w) : ∀ (n rf md : Int32) (f : Nat → Int64) (gc gl : Nat → Option Nat), RO5 g w x nA cA lA n rf kn md f gc gl → ∀ (d : Nat) (i3 : Int64) (i5 : Int32) (k m : Nat), ¬ i5 < 0 → (5 : Int32).toInt + 1 - i5.toInt ≤ (d : Int) → k ≤ 0 → m ≤ 0 → WP (MX1_withWhichAndPile g) Q (32, [some (.ref x), some (.long a0), none, some (.long i3), none, some (.int i5)], [], w, k, m) := by
  rintro n rf md f gc gl ⟨hx, hn, hc, hl, hgc, hgl, hn0, hn1, rx, rn, rc, rl, ⟨d1, d2, d3, d4, d5, d6⟩, ⟨d7, d8, d9, d10, d11, d12⟩⟩ d
  induction d with
  | zero =>
    intro i3 i5 k m z0 hm hk hs
    rw [eX1_withWhichAndPile_32]
    repeat' first
      | with_reducible assumption
      | with_reducible refine And.intro ?_ ?_
      | with_reducible exact vpi6 (by assumption) (by assumption)
      | with_reducible exact vpi8 (by assumption) (by assumption)
      | with_reducible exact (ic_zl (by assumption) (by assumption)).elim
      | with_reducible exact vpi12 (by assumption) (by assumption) (by assumption)
      | with_reducible refine sX1_cardsThatAre (by first | assumption | exact CC.ext (by assumption) (by assumption)) ?_ (by first | assumption | decide) (by first | assumption | decide)
      | with_reducible refine sX1_with ?_
      | with_reducible refine sX1_pileCount (by first | assumption | exact CC.ext (by assumption) (by assumption)) ?_
      | with_reducible refine go_R (by first | assumption | exact hgc _ _ (by assumption) | exact hgl _ _ (by assumption) | exact isR.ext (by assumption) (by assumption) | exact isR.mono (by assumption) (by first | assumption | exact isR.ext (by assumption) (by assumption))) ?_
      | with_reducible exact vp08
      | with_reducible exact hQ _
      | simp only [eX1_withWhichAndPile_0, eX1_withWhichAndPile_1, eX1_withWhichAndPile_2, eX1_withWhichAndPile_3, eX1_withWhichAndPile_7, eX1_withWhichAndPile_8, eX1_withWhichAndPile_11, eX1_withWhichAndPile_12, eX1_withWhichAndPile_12N, eX1_withWhichAndPile_13, eX1_withWhichAndPile_15, eX1_withWhichAndPile_18, eX1_withWhichAndPile_19, eX1_withWhichAndPile_22, eX1_withWhichAndPile_23, eX1_withWhichAndPile_26, eX1_withWhichAndPile_29, eX1_withWhichAndPile_30, eX1_withWhichAndPile_34, eX1_withWhichAndPile_35, eX1_withWhichAndPile_38, eX1_withWhichAndPile_39, eX1_withWhichAndPile_39N, eX1_withWhichAndPile_40, eX1_withWhichAndPile_40N, eX1_withWhichAndPile_41, eX1_withWhichAndPile_44, eX1_withWhichAndPile_45, eX1_withWhichAndPile_46, eX1_withWhichAndPile_48, eX1_withWhichAndPile_51, eX1_withWhichAndPile_52, eX1_withWhichAndPile_55, eX1_withWhichAndPile_56, eX1_withWhichAndPile_59, eX1_withWhichAndPile_62, eX1_withWhichAndPile_63, rx, rn, rc, rl, hx, hn, hc, hl, d1, d2, d3, d4, d5, d6, d7, d8, d9, d10, d11, d12, rd_n, upw_n, ite_le, n45, n54, true_or, or_true, false_or, or_false, false_and, and_false, kx_l, kx_r, go_s, gl_s, gi_s, gb_s2, gb_s3, gq_s, wt_nil, wt_int, wt_long, wt_ref, wt_null, nl_int, nl_long, nl_ref, nl_null, nl_none, rf_n, rf_s, rf_st, tl_s, tl_n, g0, gS, ex1, nb_b, nb_0, nb_1, nf_i, nf_l, nf_ra, nf_ro, nf_na, nf_no, nf_b0, nf_z0, t45_4, t45_5, true_and, and_true, List.set_cons_zero, List.set_cons_succ, List.length_cons, List.length_nil, rd_s, upw_s, ne_eq, not_false_eq_true, Nat.zero_add, Nat.add_zero]
      | split
      | with_reducible intro _
      | omega
  | succ d ih =>
    intro i3 i5 k m z0 hm hk hs
    rw [eX1_withWhichAndPile_32]
    repeat' first
      | with_reducible assumption
      | with_reducible refine And.intro ?_ ?_
      | with_reducible exact vpi6 (by assumption) (by assumption)
      | with_reducible exact vpi8 (by assumption) (by assumption)
      | with_reducible exact ih _ _ _ _ (ic_pl (by assumption) (by assumption) (by decide)) (ic_sl (by assumption) (by assumption) (by decide)) (by first | assumption | omega) (by first | assumption | omega)
      | with_reducible exact vpi12 (by assumption) (by assumption) (by assumption)
      | with_reducible refine sX1_cardsThatAre (by first | assumption | exact CC.ext (by assumption) (by assumption)) ?_ (by first | assumption | decide) (by first | assumption | decide)
      | with_reducible refine sX1_with ?_
      | with_reducible refine sX1_pileCount (by first | assumption | exact CC.ext (by assumption) (by assumption)) ?_
      | with_reducible refine go_R (by first | assumption | exact hgc _ _ (by assumption) | exact hgl _ _ (by assumption) | exact isR.ext (by assumption) (by assumption) | exact isR.mono (by assumption) (by first | assumption | exact isR.ext (by assumption) (by assumption))) ?_
      | with_reducible exact vp08
      | with_reducible exact hQ _
      | simp only [eX1_withWhichAndPile_0, eX1_withWhichAndPile_1, eX1_withWhichAndPile_2, eX1_withWhichAndPile_3, eX1_withWhichAndPile_7, eX1_withWhichAndPile_8, eX1_withWhichAndPile_11, eX1_withWhichAndPile_12, eX1_withWhichAndPile_12N, eX1_withWhichAndPile_13, eX1_withWhichAndPile_15, eX1_withWhichAndPile_18, eX1_withWhichAndPile_19, eX1_withWhichAndPile_22, eX1_withWhichAndPile_23, eX1_withWhichAndPile_26, eX1_withWhichAndPile_29, eX1_withWhichAndPile_30, eX1_withWhichAndPile_34, eX1_withWhichAndPile_35, eX1_withWhichAndPile_38, eX1_withWhichAndPile_39, eX1_withWhichAndPile_39N, eX1_withWhichAndPile_40, eX1_withWhichAndPile_40N, eX1_withWhichAndPile_41, eX1_withWhichAndPile_44, eX1_withWhichAndPile_45, eX1_withWhichAndPile_46, eX1_withWhichAndPile_48, eX1_withWhichAndPile_51, eX1_withWhichAndPile_52, eX1_withWhichAndPile_55, eX1_withWhichAndPile_56, eX1_withWhichAndPile_59, eX1_withWhichAndPile_62, eX1_withWhichAndPile_63, rx, rn, rc, rl, hx, hn, hc, hl, d1, d2, d3, d4, d5, d6, d7, d8, d9, d10, d11, d12, rd_n, upw_n, ite_le, n45, n54, true_or, or_true, false_or, or_false, false_and, and_false, kx_l, kx_r, go_s, gl_s, gi_s, gb_s2, gb_s3, gq_s, wt_nil, wt_int, wt_long, wt_ref, wt_null, nl_int, nl_long, nl_ref, nl_null, nl_none, rf_n, rf_s, rf_st, tl_s, tl_n, g0, gS, ex1, nb_b, nb_0, nb_1, nf_i, nf_l, nf_ra, nf_ro, nf_na, nf_no, nf_b0, nf_z0, t45_4, t45_5, true_and, and_true, List.set_cons_zero, List.set_cons_succ, List.length_cons, List.length_nil, rd_s, upw_s, ne_eq, not_false_eq_true, Nat.zero_add, Nat.add_zero]
      | split
      | with_reducible intro _
      | omega
set_option maxHeartbeats 4000000 in
theorem lX1_withWhichAndPile_5 {a0 : Int64} (hC : CC g w0 x nA cA lA kn w) (hQ : ∀ v : Int64, Q (.inl (some (.long v))) w) : ∀ (n rf md : Int32) (f : Nat → Int64) (gc gl : Nat → Option Nat), RO5 g w x nA cA lA n rf kn md f gc gl → ∀ (d : Nat) (i3 : Int64) (i5 : Int32) (k m : Nat), ¬ i5 < 0 → (2 : Int32).toInt + 1 - i5.toInt ≤ (d : Int) → k ≤ 0 → m ≤ 0 → WP (MX1_withWhichAndPile g) Q (5, [some (.ref x), some (.long a0), none, some (.long i3), none, some (.int i5)], [], w, k, m) := by
  rintro n rf md f gc gl ⟨hx, hn, hc, hl, hgc, hgl, hn0, hn1, rx, rn, rc, rl, ⟨d1, d2, d3, d4, d5, d6⟩, ⟨d7, d8, d9, d10, d11, d12⟩⟩ d
  induction d with
  | zero =>
    intro i3 i5 k m z0 hm hk hs
    rw [eX1_withWhichAndPile_5]
    repeat' first
      | with_reducible assumption
      | with_reducible refine And.intro ?_ ?_
      | with_reducible exact vpi6 (by assumption) (by assumption)
      | with_reducible exact vpi8 (by assumption) (by assumption)
      | with_reducible exact (ic_zl (by assumption) (by assumption)).elim
      | with_reducible exact vpi12 (by assumption) (by assumption) (by assumption)
      | with_reducible refine sX1_cardsThatAre (by first | assumption | exact CC.ext (by assumption) (by assumption)) ?_ (by first | assumption | decide) (by first | assumption | decide)
      | with_reducible refine sX1_with ?_
      | with_reducible refine sX1_pileCount (by first | assumption | exact CC.ext (by assumption) (by assumption)) ?_
      | with_reducible refine go_R (by first | assumption | exact hgc _ _ (by assumption) | exact hgl _ _ (by assumption) | exact isR.ext (by assumption) (by assumption) | exact isR.mono (by assumption) (by first | assumption | exact isR.ext (by assumption) (by assumption))) ?_
      | with_reducible exact vp08
      | with_reducible exact lX1_withWhichAndPile_32 hC hQ _ _ _ _ _ _ ⟨hx, hn, hc, hl, hgc, hgl, hn0, hn1, rx, rn, rc, rl, ⟨d1, d2, d3, d4, d5, d6⟩, ⟨d7, d8, d9, d10, d11, d12⟩⟩ 70 _ _ _ _ (by first | decide | assumption) (by first | decide | exact n12 (by assumption) | exact n60 (by assumption)) (by first | decide | omega) (by first | decide | omega)
      | with_reducible exact hQ _
      | simp only [eX1_withWhichAndPile_0, eX1_withWhichAndPile_1, eX1_withWhichAndPile_2, eX1_withWhichAndPile_3, eX1_withWhichAndPile_7, eX1_withWhichAndPile_8, eX1_withWhichAndPile_11, eX1_withWhichAndPile_12, eX1_withWhichAndPile_12N, eX1_withWhichAndPile_13, eX1_withWhichAndPile_15, eX1_withWhichAndPile_18, eX1_withWhichAndPile_19, eX1_withWhichAndPile_22, eX1_withWhichAndPile_23, eX1_withWhichAndPile_26, eX1_withWhichAndPile_29, eX1_withWhichAndPile_30, eX1_withWhichAndPile_34, eX1_withWhichAndPile_35, eX1_withWhichAndPile_38, eX1_withWhichAndPile_39, eX1_withWhichAndPile_39N, eX1_withWhichAndPile_40, eX1_withWhichAndPile_40N, eX1_withWhichAndPile_41, eX1_withWhichAndPile_44, eX1_withWhichAndPile_45, eX1_withWhichAndPile_46, eX1_withWhichAndPile_48, eX1_withWhichAndPile_51, eX1_withWhichAndPile_52, eX1_withWhichAndPile_55, eX1_withWhichAndPile_56, eX1_withWhichAndPile_59, eX1_withWhichAndPile_62, eX1_withWhichAndPile_63, rx, rn, rc, rl, hx, hn, hc, hl, d1, d2, d3, d4, d5, d6, d7, d8, d9, d10, d11, d12, rd_n, upw_n, ite_le, n45, n54, true_or, or_true, false_or, or_false, false_and, and_false, kx_l, kx_r, go_s, gl_s, gi_s, gb_s2, gb_s3, gq_s, wt_nil, wt_int, wt_long, wt_ref, wt_null, nl_int, nl_long, nl_ref, nl_null, nl_none, rf_n, rf_s, rf_st, tl_s, tl_n, g0, gS, ex1, nb_b, nb_0, nb_1, nf_i, nf_l, nf_ra, nf_ro, nf_na, nf_no, nf_b0, nf_z0, t45_4, t45_5, true_and, and_true, List.set_cons_zero, List.set_cons_succ, List.length_cons, List.length_nil, rd_s, upw_s, ne_eq, not_false_eq_true, Nat.zero_add, Nat.add_zero]
      | split
      | with_reducible intro _
      | omega
  | succ d ih =>
    intro i3 i5 k m z0 hm hk hs
    rw [eX1_withWhichAndPile_5]
    repeat' first
      | with_reducible assumption
      | with_reducible refine And.intro ?_ ?_
      | with_reducible exact vpi6 (by assumption) (by assumption)
      | with_reducible exact vpi8 (by assumption) (by assumption)
      | with_reducible exact ih _ _ _ _ (ic_pl (by assumption) (by assumption) (by decide)) (ic_sl (by assumption) (by assumption) (by decide)) (by first | assumption | omega) (by first | assumption | omega)
      | with_reducible exact vpi12 (by assumption) (by assumption) (by assumption)
      | with_reducible refine sX1_cardsThatAre (by first | assumption | exact CC.ext (by assumption) (by assumption)) ?_ (by first | assumption | decide) (by first | assumption | decide)
      | with_reducible refine sX1_with ?_
      | with_reducible refine sX1_pileCount (by first | assumption | exact CC.ext (by assumption) (by assumption)) ?_
      | with_reducible refine go_R (by first | assumption | exact hgc _ _ (by assumption) | exact hgl _ _ (by assumption) | exact isR.ext (by assumption) (by assumption) | exact isR.mono (by assumption) (by first | assumption | exact isR.ext (by assumption) (by assumption))) ?_
      | with_reducible exact vp08
      | with_reducible exact lX1_withWhichAndPile_32 hC hQ _ _ _ _ _ _ ⟨hx, hn, hc, hl, hgc, hgl, hn0, hn1, rx, rn, rc, rl, ⟨d1, d2, d3, d4, d5, d6⟩, ⟨d7, d8, d9, d10, d11, d12⟩⟩ 70 _ _ _ _ (by first | decide | assumption) (by first | decide | exact n12 (by assumption) | exact n60 (by assumption)) (by first | decide | omega) (by first | decide | omega)
      | with_reducible exact hQ _
      | simp only [eX1_withWhichAndPile_0, eX1_withWhichAndPile_1, eX1_withWhichAndPile_2, eX1_withWhichAndPile_3, eX1_withWhichAndPile_7, eX1_withWhichAndPile_8, eX1_withWhichAndPile_11, eX1_withWhichAndPile_12, eX1_withWhichAndPile_12N, eX1_withWhichAndPile_13, eX1_withWhichAndPile_15, eX1_withWhichAndPile_18, eX1_withWhichAndPile_19, eX1_withWhichAndPile_22, eX1_withWhichAndPile_23, eX1_withWhichAndPile_26, eX1_withWhichAndPile_29, eX1_withWhichAndPile_30, eX1_withWhichAndPile_34, eX1_withWhichAndPile_35, eX1_withWhichAndPile_38, eX1_withWhichAndPile_39, eX1_withWhichAndPile_39N, eX1_withWhichAndPile_40, eX1_withWhichAndPile_40N, eX1_withWhichAndPile_41, eX1_withWhichAndPile_44, eX1_withWhichAndPile_45, eX1_withWhichAndPile_46, eX1_withWhichAndPile_48, eX1_withWhichAndPile_51, eX1_withWhichAndPile_52, eX1_withWhichAndPile_55, eX1_withWhichAndPile_56, eX1_withWhichAndPile_59, eX1_withWhichAndPile_62, eX1_withWhichAndPile_63, rx, rn, rc, rl, hx, hn, hc, hl, d1, d2, d3, d4, d5, d6, d7, d8, d9, d10, d11, d12, rd_n, upw_n, ite_le, n45, n54, true_or, or_true, false_or, or_false, false_and, and_false, kx_l, kx_r, go_s, gl_s, gi_s, gb_s2, gb_s3, gq_s, wt_nil, wt_int, wt_long, wt_ref, wt_null, nl_int, nl_long, nl_ref, nl_null, nl_none, rf_n, rf_s, rf_st, tl_s, tl_n, g0, gS, ex1, nb_b, nb_0, nb_1, nf_i, nf_l, nf_ra, nf_ro, nf_na, nf_no, nf_b0, nf_z0, t45_4, t45_5, true_and, and_true, List.set_cons_zero, List.set_cons_succ, List.length_cons, List.length_nil, rd_s, upw_s, ne_eq, not_false_eq_true, Nat.zero_add, Nat.add_zero]
      | split
      | with_reducible intro _
      | omega
set_option maxHeartbeats 4000000 in
theorem sX1_withWhichAndPile {a0 : Int64} (hC : CC g w0 x nA cA lA kn w) (hQ : ∀ v : Int64, Q (.inl (some (.long v))) w) : WP (MX1_withWhichAndPile g) Q (0, [some (.ref x), some (.long a0), none, none, none, none], [], w, 0, 0) := by
  obtain ⟨n, rf, md, f, gc, gl, hx, hn, hc, hl, hgc, hgl, hn0, hn1, rx, rn, rc, rl, ⟨d1, d2, d3, d4, d5, d6⟩, ⟨d7, d8, d9, d10, d11, d12⟩⟩ := hC.1.opn g
  repeat' first
    | with_reducible assumption
    | with_reducible refine And.intro ?_ ?_
    | with_reducible exact vpi6 (by assumption) (by assumption)
    | with_reducible exact vpi8 (by assumption) (by assumption)
    | with_reducible exact lX1_withWhichAndPile_32 hC hQ _ _ _ _ _ _ ⟨hx, hn, hc, hl, hgc, hgl, hn0, hn1, rx, rn, rc, rl, ⟨d1, d2, d3, d4, d5, d6⟩, ⟨d7, d8, d9, d10, d11, d12⟩⟩ 70 _ _ _ _ (by first | decide | assumption) (by first | decide | exact n12 (by assumption) | exact n60 (by assumption)) (by first | decide | omega) (by first | decide | omega)
    | with_reducible exact lX1_withWhichAndPile_5 hC hQ _ _ _ _ _ _ ⟨hx, hn, hc, hl, hgc, hgl, hn0, hn1, rx, rn, rc, rl, ⟨d1, d2, d3, d4, d5, d6⟩, ⟨d7, d8, d9, d10, d11, d12⟩⟩ 70 _ _ _ _ (by first | decide | assumption) (by first | decide | exact n12 (by assumption) | exact n60 (by assumption)) (by first | decide | omega) (by first | decide | omega)
    | with_reducible refine sX1_cardsThatAre (by first | assumption | exact CC.ext (by assumption) (by assumption)) ?_ (by first | assumption | decide) (by first | assumption | decide)
    | with_reducible refine sX1_with ?_
    | with_reducible refine sX1_pileCount (by first | assumption | exact CC.ext (by assumption) (by assumption)) ?_
    | with_reducible refine go_R (by first | assumption | exact hgc _ _ (by assumption) | exact hgl _ _ (by assumption) | exact isR.ext (by assumption) (by assumption) | exact isR.mono (by assumption) (by first | assumption | exact isR.ext (by assumption) (by assumption))) ?_
    | with_reducible exact hQ _
    | simp only [eX1_withWhichAndPile_0, eX1_withWhichAndPile_1, eX1_withWhichAndPile_2, eX1_withWhichAndPile_3, eX1_withWhichAndPile_7, eX1_withWhichAndPile_8, eX1_withWhichAndPile_11, eX1_withWhichAndPile_12, eX1_withWhichAndPile_12N, eX1_withWhichAndPile_13, eX1_withWhichAndPile_15, eX1_withWhichAndPile_18, eX1_withWhichAndPile_19, eX1_withWhichAndPile_22, eX1_withWhichAndPile_23, eX1_withWhichAndPile_26, eX1_withWhichAndPile_29, eX1_withWhichAndPile_30, eX1_withWhichAndPile_34, eX1_withWhichAndPile_35, eX1_withWhichAndPile_38, eX1_withWhichAndPile_39, eX1_withWhichAndPile_39N, eX1_withWhichAndPile_40, eX1_withWhichAndPile_40N, eX1_withWhichAndPile_41, eX1_withWhichAndPile_44, eX1_withWhichAndPile_45, eX1_withWhichAndPile_46, eX1_withWhichAndPile_48, eX1_withWhichAndPile_51, eX1_withWhichAndPile_52, eX1_withWhichAndPile_55, eX1_withWhichAndPile_56, eX1_withWhichAndPile_59, eX1_withWhichAndPile_62, eX1_withWhichAndPile_63, rx, rn, rc, rl, hx, hn, hc, hl, d1, d2, d3, d4, d5, d6, d7, d8, d9, d10, d11, d12, rd_n, upw_n, ite_le, n45, n54, true_or, or_true, false_or, or_false, false_and, and_false, kx_l, kx_r, go_s, gl_s, gi_s, gb_s2, gb_s3, gq_s, wt_nil, wt_int, wt_long, wt_ref, wt_null, nl_int, nl_long, nl_ref, nl_null, nl_none, rf_n, rf_s, rf_st, tl_s, tl_n, g0, gS, ex1, nb_b, nb_0, nb_1, nf_i, nf_l, nf_ra, nf_ro, nf_na, nf_no, nf_b0, nf_z0, t45_4, t45_5, true_and, and_true, List.set_cons_zero, List.set_cons_succ, List.length_cons, List.length_nil, rd_s, upw_s, ne_eq, not_false_eq_true, Nat.zero_add, Nat.add_zero]
    | split
    | with_reducible intro _
    | omega
end
end
/-! 67.23.pub2.lean.txt -/
section
section
variable {g : RO} {Q : Ot → Hw → Prop} {w0 w : Hw} {x nA cA lA : Nat} {kn : Int32}
theorem sX1_rangeOf2 {a0 : Int32} (hC : CC g w0 x nA cA lA kn w) (hXo : Q (.inr "java/lang/IndexOutOfBoundsException") w) (hXs : Q (.inr "java/lang/IllegalStateException") w) (hQ : ∀ b, ¬ a0 < 0 → a0 < 6 → isR w b → Q (.inl (some (.ref b))) w) : WP (MX1_rangeOf g) Q (0, [some (.ref x), some (.int a0), none], [], w, 0, 0) := by
  obtain ⟨n, rf, md, f, gc, gl, hx, hn, hc, hl, hgc, hgl, hn0, hn1, rx, rn, rc, rl, ⟨d1, d2, d3, d4, d5, d6⟩, ⟨d7, d8, d9, d10, d11, d12⟩⟩ := hC.1.opn g
  repeat' first
    | with_reducible assumption
    | with_reducible refine And.intro ?_ ?_
    | with_reducible exact vpi6 (by assumption) (by assumption)
    | with_reducible exact vpi8 (by assumption) (by assumption)
    | with_reducible exact hQ _ (by assumption) (by assumption) (hgc _ _ (by assumption))
    | with_reducible refine sX1_needCard ?_ ?_
    | simp only [eX1_rangeOf_0, eX1_rangeOf_1, eX1_rangeOf_4, eX1_rangeOf_4N, eX1_rangeOf_5, eX1_rangeOf_8, eX1_rangeOf_9, eX1_rangeOf_10, eX1_rangeOf_10N, eX1_rangeOf_11, eX1_rangeOf_11N, eX1_rangeOf_12R, eX1_rangeOf_12N, eX1_rangeOf_15, eX1_rangeOf_25, eX1_rangeOf_25N, eX1_rangeOf_26, eX1_rangeOf_26N, rx, rn, rc, rl, hx, hn, hc, hl, d1, d2, d3, d4, d5, d6, d7, d8, d9, d10, d11, d12, rd_n, upw_n, ite_le, n45, n54, true_or, or_true, false_or, or_false, false_and, and_false, kx_l, kx_r, go_s, gl_s, gi_s, gb_s2, gb_s3, gq_s, wt_nil, wt_int, wt_long, wt_ref, wt_null, nl_int, nl_long, nl_ref, nl_null, nl_none, rf_n, rf_s, rf_st, tl_s, tl_n, g0, gS, ex1, nb_b, nb_0, nb_1, nf_i, nf_l, nf_ra, nf_ro, nf_na, nf_no, nf_b0, nf_z0, t45_4, t45_5, true_and, and_true, List.set_cons_zero, List.set_cons_succ, List.length_cons, List.length_nil, rd_s, upw_s, ne_eq, not_false_eq_true, Nat.zero_add, Nat.add_zero]
    | split
    | with_reducible intro _
    | omega
end
end
/-! 67.23.pub3.lean.txt -/
section
section
variable {g : RO} {Q : Ot → Hw → Prop} {w0 w : Hw} {x nA cA lA : Nat} {kn : Int32}
set_option maxHeartbeats 4000000 in
theorem lX1_count_38 {a0 : Int32} {a1 : Int32} {a2 : Int32} {b4 : Nat} (hC : CC g w0 x nA cA lA kn w) (hb4 : isR w b4) (hXo : Q (.inr "java/lang/IndexOutOfBoundsException") w) (hXa : Q (.inr "java/lang/IllegalArgumentException") w) (hXs : Q (.inr "java/lang/IllegalStateException") w) (hQ : ∀ v : Int32, Q (.inl (some (.int v))) w) : ∀ (n rf md : Int32) (f : Nat → Int64) (gc gl : Nat → Option Nat), RO5 g w x nA cA lA n rf kn md f gc gl → ∀ (d : Nat) (i5 : Int32) (i6 : Int32) (k m : Nat), ¬ i6 < 0 → (a2 : Int32).toInt - i6.toInt ≤ (d : Int) → k ≤ 4 → m ≤ 24 → WP (MX1_count g) Q (38, [some (.ref x), some (.int a0), some (.int a1), some (.int a2), some (.ref b4), some (.int i5), some (.int i6)], [], w, k, m) := by
  rintro n rf md f gc gl ⟨hx, hn, hc, hl, hgc, hgl, hn0, hn1, rx, rn, rc, rl, ⟨d1, d2, d3, d4, d5, d6⟩, ⟨d7, d8, d9, d10, d11, d12⟩⟩ d
  induction d with
  | zero =>
    intro i5 i6 k m z0 hm hk hs
    rw [eX1_count_38]
    repeat' first
      | with_reducible assumption
      | with_reducible refine And.intro ?_ ?_
      | with_reducible exact vpi6 (by assumption) (by assumption)
      | with_reducible exact vpi8 (by assumption) (by assumption)
      | with_reducible exact (ic_z (by assumption) (by assumption)).elim
      | with_reducible exact vpi12 (by assumption) (by assumption) (by assumption)
      | with_reducible refine sX1_needCard ?_ ?_
      | with_reducible refine sX1_rangeOf2 (by first | assumption | exact CC.ext (by assumption) (by assumption)) ?_ ?_ ?_
      | with_reducible refine sX0_holds (by first | assumption | exact hgc _ _ (by assumption) | exact hgl _ _ (by assumption) | exact isR.ext (by assumption) (by assumption) | exact isR.mono (by assumption) (by first | assumption | exact isR.ext (by assumption) (by assumption)) | exact isR_up2 (by first | assumption | exact hgc _ _ (by assumption)) hc (by simp)) ?_
      | with_reducible refine sX1_asNumber ?_
      | with_reducible refine go_R (by first | assumption | exact hgc _ _ (by assumption) | exact hgl _ _ (by assumption) | exact isR.ext (by assumption) (by assumption) | exact isR.mono (by assumption) (by first | assumption | exact isR.ext (by assumption) (by assumption)) | exact isR_up2 (by first | assumption | exact hgc _ _ (by assumption)) hc (by simp)) ?_
      | with_reducible exact hQ _
      | simp only [eX1_count_0, eX1_count_1, eX1_count_4, eX1_count_5, eX1_count_6, eX1_count_9, eX1_count_10, eX1_count_12, eX1_count_15, eX1_count_25, eX1_count_25N, eX1_count_26, eX1_count_27, eX1_count_30, eX1_count_30N, eX1_count_32, eX1_count_33, eX1_count_35, eX1_count_36, eX1_count_40, eX1_count_41, eX1_count_44, eX1_count_46, eX1_count_46N, eX1_count_48, eX1_count_49, eX1_count_50, eX1_count_52, eX1_count_53, eX1_count_54, eX1_count_57, eX1_count_60, eX1_count_61, eX1_count_63, eX1_count_66, eX1_count_69, eX1_count_71, rx, rn, rc, rl, hx, hn, hc, hl, d1, d2, d3, d4, d5, d6, d7, d8, d9, d10, d11, d12, rd_n, upw_n, ite_le, n45, n54, true_or, or_true, false_or, or_false, false_and, and_false, kx_l, kx_r, go_s, gl_s, gi_s, gb_s2, gb_s3, gq_s, wt_nil, wt_int, wt_long, wt_ref, wt_null, nl_int, nl_long, nl_ref, nl_null, nl_none, rf_n, rf_s, rf_st, tl_s, tl_n, g0, gS, ex1, nb_b, nb_0, nb_1, nf_i, nf_l, nf_ra, nf_ro, nf_na, nf_no, nf_b0, nf_z0, t45_4, t45_5, true_and, and_true, List.set_cons_zero, List.set_cons_succ, List.length_cons, List.length_nil, rd_s, upw_s, ne_eq, not_false_eq_true, Nat.zero_add, Nat.add_zero]
      | split
      | with_reducible intro _
      | omega
  | succ d ih =>
    intro i5 i6 k m z0 hm hk hs
    rw [eX1_count_38]
    repeat' first
      | with_reducible assumption
      | with_reducible refine And.intro ?_ ?_
      | with_reducible exact vpi6 (by assumption) (by assumption)
      | with_reducible exact vpi8 (by assumption) (by assumption)
      | with_reducible exact ih _ _ _ _ (ic_p (by assumption) (by assumption)) (ic_s (by assumption) (by assumption)) (by first | assumption | omega) (by first | assumption | omega)
      | with_reducible exact vpi12 (by assumption) (by assumption) (by assumption)
      | with_reducible refine sX1_needCard ?_ ?_
      | with_reducible refine sX1_rangeOf2 (by first | assumption | exact CC.ext (by assumption) (by assumption)) ?_ ?_ ?_
      | with_reducible refine sX0_holds (by first | assumption | exact hgc _ _ (by assumption) | exact hgl _ _ (by assumption) | exact isR.ext (by assumption) (by assumption) | exact isR.mono (by assumption) (by first | assumption | exact isR.ext (by assumption) (by assumption)) | exact isR_up2 (by first | assumption | exact hgc _ _ (by assumption)) hc (by simp)) ?_
      | with_reducible refine sX1_asNumber ?_
      | with_reducible refine go_R (by first | assumption | exact hgc _ _ (by assumption) | exact hgl _ _ (by assumption) | exact isR.ext (by assumption) (by assumption) | exact isR.mono (by assumption) (by first | assumption | exact isR.ext (by assumption) (by assumption)) | exact isR_up2 (by first | assumption | exact hgc _ _ (by assumption)) hc (by simp)) ?_
      | with_reducible exact hQ _
      | simp only [eX1_count_0, eX1_count_1, eX1_count_4, eX1_count_5, eX1_count_6, eX1_count_9, eX1_count_10, eX1_count_12, eX1_count_15, eX1_count_25, eX1_count_25N, eX1_count_26, eX1_count_27, eX1_count_30, eX1_count_30N, eX1_count_32, eX1_count_33, eX1_count_35, eX1_count_36, eX1_count_40, eX1_count_41, eX1_count_44, eX1_count_46, eX1_count_46N, eX1_count_48, eX1_count_49, eX1_count_50, eX1_count_52, eX1_count_53, eX1_count_54, eX1_count_57, eX1_count_60, eX1_count_61, eX1_count_63, eX1_count_66, eX1_count_69, eX1_count_71, rx, rn, rc, rl, hx, hn, hc, hl, d1, d2, d3, d4, d5, d6, d7, d8, d9, d10, d11, d12, rd_n, upw_n, ite_le, n45, n54, true_or, or_true, false_or, or_false, false_and, and_false, kx_l, kx_r, go_s, gl_s, gi_s, gb_s2, gb_s3, gq_s, wt_nil, wt_int, wt_long, wt_ref, wt_null, nl_int, nl_long, nl_ref, nl_null, nl_none, rf_n, rf_s, rf_st, tl_s, tl_n, g0, gS, ex1, nb_b, nb_0, nb_1, nf_i, nf_l, nf_ra, nf_ro, nf_na, nf_no, nf_b0, nf_z0, t45_4, t45_5, true_and, and_true, List.set_cons_zero, List.set_cons_succ, List.length_cons, List.length_nil, rd_s, upw_s, ne_eq, not_false_eq_true, Nat.zero_add, Nat.add_zero]
      | split
      | with_reducible intro _
      | omega
set_option maxHeartbeats 4000000 in
theorem sX1_count {a0 : Int32} {a1 : Int32} {a2 : Int32} (hC : CC g w0 x nA cA lA kn w) (hXo : Q (.inr "java/lang/IndexOutOfBoundsException") w) (hXa : Q (.inr "java/lang/IllegalArgumentException") w) (hXs : Q (.inr "java/lang/IllegalStateException") w) (hQ : ∀ v : Int32, Q (.inl (some (.int v))) w) : WP (MX1_count g) Q (0, [some (.ref x), some (.int a0), some (.int a1), some (.int a2), none, none, none], [], w, 0, 0) := by
  obtain ⟨n, rf, md, f, gc, gl, hx, hn, hc, hl, hgc, hgl, hn0, hn1, rx, rn, rc, rl, ⟨d1, d2, d3, d4, d5, d6⟩, ⟨d7, d8, d9, d10, d11, d12⟩⟩ := hC.1.opn g
  repeat' first
    | with_reducible assumption
    | with_reducible refine And.intro ?_ ?_
    | with_reducible exact vpi6 (by assumption) (by assumption)
    | with_reducible exact vpi8 (by assumption) (by assumption)
    | with_reducible exact lX1_count_38 hC (by first | assumption | exact hgc _ _ (by assumption) | exact hgl _ _ (by assumption) | exact isR.ext (by assumption) (by assumption) | exact isR.mono (by assumption) (by first | assumption | exact isR.ext (by assumption) (by assumption)) | exact isR_up2 (by first | assumption | exact hgc _ _ (by assumption)) hc (by simp)) hXo hXa hXs hQ _ _ _ _ _ _ ⟨hx, hn, hc, hl, hgc, hgl, hn0, hn1, rx, rn, rc, rl, ⟨d1, d2, d3, d4, d5, d6⟩, ⟨d7, d8, d9, d10, d11, d12⟩⟩ 70 _ _ _ _ (by first | decide | assumption) (by first | decide | exact n12 (by assumption) | exact n60 (by assumption)) (by first | decide | omega) (by first | decide | omega)
    | with_reducible refine sX1_needCard ?_ ?_
    | with_reducible refine sX1_rangeOf2 (by first | assumption | exact CC.ext (by assumption) (by assumption)) ?_ ?_ ?_
    | with_reducible refine sX0_holds (by first | assumption | exact hgc _ _ (by assumption) | exact hgl _ _ (by assumption) | exact isR.ext (by assumption) (by assumption) | exact isR.mono (by assumption) (by first | assumption | exact isR.ext (by assumption) (by assumption)) | exact isR_up2 (by first | assumption | exact hgc _ _ (by assumption)) hc (by simp)) ?_
    | with_reducible refine sX1_asNumber ?_
    | with_reducible refine go_R (by first | assumption | exact hgc _ _ (by assumption) | exact hgl _ _ (by assumption) | exact isR.ext (by assumption) (by assumption) | exact isR.mono (by assumption) (by first | assumption | exact isR.ext (by assumption) (by assumption)) | exact isR_up2 (by first | assumption | exact hgc _ _ (by assumption)) hc (by simp)) ?_
    | with_reducible exact hQ _
    | simp only [eX1_count_0, eX1_count_1, eX1_count_4, eX1_count_5, eX1_count_6, eX1_count_9, eX1_count_10, eX1_count_12, eX1_count_15, eX1_count_25, eX1_count_25N, eX1_count_26, eX1_count_27, eX1_count_30, eX1_count_30N, eX1_count_32, eX1_count_33, eX1_count_35, eX1_count_36, eX1_count_40, eX1_count_41, eX1_count_44, eX1_count_46, eX1_count_46N, eX1_count_48, eX1_count_49, eX1_count_50, eX1_count_52, eX1_count_53, eX1_count_54, eX1_count_57, eX1_count_60, eX1_count_61, eX1_count_63, eX1_count_66, eX1_count_69, eX1_count_71, rx, rn, rc, rl, hx, hn, hc, hl, d1, d2, d3, d4, d5, d6, d7, d8, d9, d10, d11, d12, rd_n, upw_n, ite_le, n45, n54, true_or, or_true, false_or, or_false, false_and, and_false, kx_l, kx_r, go_s, gl_s, gi_s, gb_s2, gb_s3, gq_s, wt_nil, wt_int, wt_long, wt_ref, wt_null, nl_int, nl_long, nl_ref, nl_null, nl_none, rf_n, rf_s, rf_st, tl_s, tl_n, g0, gS, ex1, nb_b, nb_0, nb_1, nf_i, nf_l, nf_ra, nf_ro, nf_na, nf_no, nf_b0, nf_z0, t45_4, t45_5, true_and, and_true, List.set_cons_zero, List.set_cons_succ, List.length_cons, List.length_nil, rd_s, upw_s, ne_eq, not_false_eq_true, Nat.zero_add, Nat.add_zero]
    | split
    | with_reducible intro _
    | omega
end
end
/-! 67.23.pub4.lean.txt -/
section
section
variable {g : RO} {Q : Ot → Hw → Prop} {w0 w : Hw} {x nA cA lA : Nat} {kn : Int32}
set_option maxHeartbeats 4000000 in
theorem sX1_who {a0 : Int32} {a1 : Int32} (hC : CC g w0 x nA cA lA kn w) (hXo : Q (.inr "java/lang/IndexOutOfBoundsException") w) (hXa : Q (.inr "java/lang/IllegalArgumentException") w) (hQ : ∀ v : Int32, Q (.inl (some (.int v))) w) : WP (MX1_who g) Q (0, [some (.ref x), some (.int a0), some (.int a1)], [], w, 0, 0) := by
  obtain ⟨n, rf, md, f, gc, gl, hx, hn, hc, hl, hgc, hgl, hn0, hn1, rx, rn, rc, rl, ⟨d1, d2, d3, d4, d5, d6⟩, ⟨d7, d8, d9, d10, d11, d12⟩⟩ := hC.1.opn g
  repeat' first
    | with_reducible assumption
    | with_reducible refine And.intro ?_ ?_
    | with_reducible exact vpi6 (by assumption) (by assumption)
    | with_reducible exact vpi8 (by assumption) (by assumption)
    | with_reducible refine sX1_needNumber ?_ ?_
    | with_reducible refine sX1_needChoice ?_ ?_
    | with_reducible refine sX1_holdersOf (by first | assumption | exact CC.ext (by assumption) (by assumption)) ?_
    | with_reducible refine go_R (by first | assumption | exact hgc _ _ (by assumption) | exact hgl _ _ (by assumption) | exact isR.ext (by assumption) (by assumption) | exact isR.mono (by assumption) (by first | assumption | exact isR.ext (by assumption) (by assumption)) | exact isR_up2 (by first | assumption | exact hgc _ _ (by assumption)) hc (by simp)) ?_
    | with_reducible exact hQ _
    | simp only [eX1_who_0, eX1_who_1, eX1_who_4, eX1_who_5, eX1_who_6, eX1_who_9, eX1_who_9N, eX1_who_10, eX1_who_10N, eX1_who_11, eX1_who_14, eX1_who_15, eX1_who_16, eX1_who_17, eX1_who_18, eX1_who_21, eX1_who_22, eX1_who_25, eX1_who_26, eX1_who_29, rx, rn, rc, rl, hx, hn, hc, hl, d1, d2, d3, d4, d5, d6, d7, d8, d9, d10, d11, d12, rd_n, upw_n, ite_le, n45, n54, true_or, or_true, false_or, or_false, false_and, and_false, kx_l, kx_r, go_s, gl_s, gi_s, gb_s2, gb_s3, gq_s, wt_nil, wt_int, wt_long, wt_ref, wt_null, nl_int, nl_long, nl_ref, nl_null, nl_none, rf_n, rf_s, rf_st, tl_s, tl_n, g0, gS, ex1, nb_b, nb_0, nb_1, nf_i, nf_l, nf_ra, nf_ro, nf_na, nf_no, nf_b0, nf_z0, t45_4, t45_5, true_and, and_true, List.set_cons_zero, List.set_cons_succ, List.length_cons, List.length_nil, rd_s, upw_s, ne_eq, not_false_eq_true, Nat.zero_add, Nat.add_zero]
    | split
    | with_reducible intro _
    | omega
set_option maxHeartbeats 4000000 in
theorem sX1_which {a0 : Int32} (hC : CC g w0 x nA cA lA kn w) (hXa : Q (.inr "java/lang/IllegalArgumentException") w) (hQ : ∀ v : Int32, Q (.inl (some (.int v))) w) : WP (MX1_which g) Q (0, [some (.ref x), some (.int a0)], [], w, 0, 0) := by
  obtain ⟨n, rf, md, f, gc, gl, hx, hn, hc, hl, hgc, hgl, hn0, hn1, rx, rn, rc, rl, ⟨d1, d2, d3, d4, d5, d6⟩, ⟨d7, d8, d9, d10, d11, d12⟩⟩ := hC.1.opn g
  repeat' first
    | with_reducible assumption
    | with_reducible refine And.intro ?_ ?_
    | with_reducible exact vpi6 (by assumption) (by assumption)
    | with_reducible exact vpi8 (by assumption) (by assumption)
    | with_reducible refine sX1_needChoice ?_ ?_
    | with_reducible refine sX1_cardsThatAre (by first | assumption | exact CC.ext (by assumption) (by assumption)) ?_ (by first | assumption | decide) (by first | assumption | decide)
    | with_reducible refine go_R (by first | assumption | exact hgc _ _ (by assumption) | exact hgl _ _ (by assumption) | exact isR.ext (by assumption) (by assumption) | exact isR.mono (by assumption) (by first | assumption | exact isR.ext (by assumption) (by assumption)) | exact isR_up2 (by first | assumption | exact hgc _ _ (by assumption)) hc (by simp)) ?_
    | with_reducible exact hQ _
    | simp only [eX1_which_0, eX1_which_1, eX1_which_2, eX1_which_5, eX1_which_5N, eX1_which_6, eX1_which_7, eX1_which_10, rx, rn, rc, rl, hx, hn, hc, hl, d1, d2, d3, d4, d5, d6, d7, d8, d9, d10, d11, d12, rd_n, upw_n, ite_le, n45, n54, true_or, or_true, false_or, or_false, false_and, and_false, kx_l, kx_r, go_s, gl_s, gi_s, gb_s2, gb_s3, gq_s, wt_nil, wt_int, wt_long, wt_ref, wt_null, nl_int, nl_long, nl_ref, nl_null, nl_none, rf_n, rf_s, rf_st, tl_s, tl_n, g0, gS, ex1, nb_b, nb_0, nb_1, nf_i, nf_l, nf_ra, nf_ro, nf_na, nf_no, nf_b0, nf_z0, t45_4, t45_5, true_and, and_true, List.set_cons_zero, List.set_cons_succ, List.length_cons, List.length_nil, rd_s, upw_s, ne_eq, not_false_eq_true, Nat.zero_add, Nat.add_zero]
    | split
    | with_reducible intro _
    | omega
set_option maxHeartbeats 4000000 in
theorem sX1_likes {a0 : Int32} (hC : CC g w0 x nA cA lA kn w) (hXo : Q (.inr "java/lang/IndexOutOfBoundsException") w) (hXs : Q (.inr "java/lang/IllegalStateException") w) (hQ : ∀ v : Int32, Q (.inl (some (.int v))) w) : WP (MX1_likes g) Q (0, [some (.ref x), some (.int a0)], [], w, 0, 0) := by
  obtain ⟨n, rf, md, f, gc, gl, hx, hn, hc, hl, hgc, hgl, hn0, hn1, rx, rn, rc, rl, ⟨d1, d2, d3, d4, d5, d6⟩, ⟨d7, d8, d9, d10, d11, d12⟩⟩ := hC.1.opn g
  repeat' first
    | with_reducible assumption
    | with_reducible refine And.intro ?_ ?_
    | with_reducible exact vpi6 (by assumption) (by assumption)
    | with_reducible exact vpi8 (by assumption) (by assumption)
    | with_reducible refine sX1_rangeOf2 (by first | assumption | exact CC.ext (by assumption) (by assumption)) ?_ ?_ ?_
    | with_reducible refine sX1_cardsLike (by first | assumption | exact CC.ext (by assumption) (by assumption)) (by first | assumption | exact hgc _ _ (by assumption) | exact hgl _ _ (by assumption) | exact isR.ext (by assumption) (by assumption) | exact isR.mono (by assumption) (by first | assumption | exact isR.ext (by assumption) (by assumption)) | exact isR_up2 (by first | assumption | exact hgc _ _ (by assumption)) hc (by simp)) ?_
    | with_reducible refine go_R (by first | assumption | exact hgc _ _ (by assumption) | exact hgl _ _ (by assumption) | exact isR.ext (by assumption) (by assumption) | exact isR.mono (by assumption) (by first | assumption | exact isR.ext (by assumption) (by assumption)) | exact isR_up2 (by first | assumption | exact hgc _ _ (by assumption)) hc (by simp)) ?_
    | with_reducible exact hQ _
    | simp only [eX1_likes_0, eX1_likes_0N, eX1_likes_1, eX1_likes_1N, eX1_likes_2, eX1_likes_3, eX1_likes_6R, eX1_likes_6N, eX1_likes_9, rx, rn, rc, rl, hx, hn, hc, hl, d1, d2, d3, d4, d5, d6, d7, d8, d9, d10, d11, d12, rd_n, upw_n, ite_le, n45, n54, true_or, or_true, false_or, or_false, false_and, and_false, kx_l, kx_r, go_s, gl_s, gi_s, gb_s2, gb_s3, gq_s, wt_nil, wt_int, wt_long, wt_ref, wt_null, nl_int, nl_long, nl_ref, nl_null, nl_none, rf_n, rf_s, rf_st, tl_s, tl_n, g0, gS, ex1, nb_b, nb_0, nb_1, nf_i, nf_l, nf_ra, nf_ro, nf_na, nf_no, nf_b0, nf_z0, t45_4, t45_5, true_and, and_true, List.set_cons_zero, List.set_cons_succ, List.length_cons, List.length_nil, rd_s, upw_s, ne_eq, not_false_eq_true, Nat.zero_add, Nat.add_zero]
    | split
    | with_reducible intro _
    | omega
set_option maxHeartbeats 4000000 in
theorem sX1_pile {a0 : Int32} {a1 : Int32} (hC : CC g w0 x nA cA lA kn w) (hXo : Q (.inr "java/lang/IndexOutOfBoundsException") w) (hXa : Q (.inr "java/lang/IllegalArgumentException") w) (hQ : ∀ v : Int32, Q (.inl (some (.int v))) w) : WP (MX1_pile g) Q (0, [some (.ref x), some (.int a0), some (.int a1)], [], w, 0, 0) := by
  obtain ⟨n, rf, md, f, gc, gl, hx, hn, hc, hl, hgc, hgl, hn0, hn1, rx, rn, rc, rl, ⟨d1, d2, d3, d4, d5, d6⟩, ⟨d7, d8, d9, d10, d11, d12⟩⟩ := hC.1.opn g
  repeat' first
    | with_reducible assumption
    | with_reducible refine And.intro ?_ ?_
    | with_reducible exact vpi6 (by assumption) (by assumption)
    | with_reducible exact vpi8 (by assumption) (by assumption)
    | with_reducible refine sX1_needNumber ?_ ?_
    | with_reducible refine sX1_needChoice ?_ ?_
    | with_reducible refine sX1_pileCount (by first | assumption | exact CC.ext (by assumption) (by assumption)) ?_
    | with_reducible refine go_R (by first | assumption | exact hgc _ _ (by assumption) | exact hgl _ _ (by assumption) | exact isR.ext (by assumption) (by assumption) | exact isR.mono (by assumption) (by first | assumption | exact isR.ext (by assumption) (by assumption)) | exact isR_up2 (by first | assumption | exact hgc _ _ (by assumption)) hc (by simp)) ?_
    | with_reducible exact hQ _
    | simp only [eX1_pile_0, eX1_pile_1, eX1_pile_4, eX1_pile_5, eX1_pile_6, eX1_pile_9, eX1_pile_9N, eX1_pile_10, eX1_pile_10N, eX1_pile_11, eX1_pile_14, eX1_pile_15, eX1_pile_16, eX1_pile_17, eX1_pile_20, rx, rn, rc, rl, hx, hn, hc, hl, d1, d2, d3, d4, d5, d6, d7, d8, d9, d10, d11, d12, rd_n, upw_n, ite_le, n45, n54, true_or, or_true, false_or, or_false, false_and, and_false, kx_l, kx_r, go_s, gl_s, gi_s, gb_s2, gb_s3, gq_s, wt_nil, wt_int, wt_long, wt_ref, wt_null, nl_int, nl_long, nl_ref, nl_null, nl_none, rf_n, rf_s, rf_st, tl_s, tl_n, g0, gS, ex1, nb_b, nb_0, nb_1, nf_i, nf_l, nf_ra, nf_ro, nf_na, nf_no, nf_b0, nf_z0, t45_4, t45_5, true_and, and_true, List.set_cons_zero, List.set_cons_succ, List.length_cons, List.length_nil, rd_s, upw_s, ne_eq, not_false_eq_true, Nat.zero_add, Nat.add_zero]
    | split
    | with_reducible intro _
    | omega
set_option maxHeartbeats 4000000 in
theorem sX1_house {a0 : Int32} (hC : CC g w0 x nA cA lA kn w) (hXa : Q (.inr "java/lang/IllegalArgumentException") w) (hQ : ∀ v : Int32, Q (.inl (some (.int v))) w) : WP (MX1_house g) Q (0, [some (.ref x), some (.int a0)], [], w, 0, 0) := by
  obtain ⟨n, rf, md, f, gc, gl, hx, hn, hc, hl, hgc, hgl, hn0, hn1, rx, rn, rc, rl, ⟨d1, d2, d3, d4, d5, d6⟩, ⟨d7, d8, d9, d10, d11, d12⟩⟩ := hC.1.opn g
  repeat' first
    | with_reducible assumption
    | with_reducible refine And.intro ?_ ?_
    | with_reducible exact vpi6 (by assumption) (by assumption)
    | with_reducible exact vpi8 (by assumption) (by assumption)
    | with_reducible refine sX1_needChoice ?_ ?_
    | with_reducible refine sX1_houseCount (by first | assumption | exact CC.ext (by assumption) (by assumption)) ?_
    | with_reducible refine go_R (by first | assumption | exact hgc _ _ (by assumption) | exact hgl _ _ (by assumption) | exact isR.ext (by assumption) (by assumption) | exact isR.mono (by assumption) (by first | assumption | exact isR.ext (by assumption) (by assumption)) | exact isR_up2 (by first | assumption | exact hgc _ _ (by assumption)) hc (by simp)) ?_
    | with_reducible exact hQ _
    | simp only [eX1_house_0, eX1_house_1, eX1_house_2, eX1_house_5, eX1_house_5N, eX1_house_6, eX1_house_7, eX1_house_10, rx, rn, rc, rl, hx, hn, hc, hl, d1, d2, d3, d4, d5, d6, d7, d8, d9, d10, d11, d12, rd_n, upw_n, ite_le, n45, n54, true_or, or_true, false_or, or_false, false_and, and_false, kx_l, kx_r, go_s, gl_s, gi_s, gb_s2, gb_s3, gq_s, wt_nil, wt_int, wt_long, wt_ref, wt_null, nl_int, nl_long, nl_ref, nl_null, nl_none, rf_n, rf_s, rf_st, tl_s, tl_n, g0, gS, ex1, nb_b, nb_0, nb_1, nf_i, nf_l, nf_ra, nf_ro, nf_na, nf_no, nf_b0, nf_z0, t45_4, t45_5, true_and, and_true, List.set_cons_zero, List.set_cons_succ, List.length_cons, List.length_nil, rd_s, upw_s, ne_eq, not_false_eq_true, Nat.zero_add, Nat.add_zero]
    | split
    | with_reducible intro _
    | omega
end
end
