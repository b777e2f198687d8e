/-! Rangecard.pick(II)I -/
theorem dX1_pick_0 : decode cX1_pick 0 = .ok (.aload_n 0, 1) := by decide +kernel
theorem dX1_pick_1 : decode cX1_pick 1 = .ok (.iload_n 1, 1) := by decide +kernel
theorem dX1_pick_2 : decode cX1_pick 2 = .ok (.invokevirtual 198, 3) := by decide +kernel
theorem dX1_pick_5 : decode cX1_pick 5 = .ok (.iload_n 2, 1) := by decide +kernel
theorem dX1_pick_6 : decode cX1_pick 6 = .ok (.invokestatic 79, 3) := by decide +kernel
theorem dX1_pick_9 : decode cX1_pick 9 = .ok (.aload_n 0, 1) := by decide +kernel
theorem dX1_pick_10 : decode cX1_pick 10 = .ok (.getfield 15, 3) := by decide +kernel
theorem dX1_pick_13 : decode cX1_pick 13 = .ok (.iload_n 2, 1) := by decide +kernel
theorem dX1_pick_14 : decode cX1_pick 14 = .ok (.aaload, 1) := by decide +kernel
theorem dX1_pick_15 : decode cX1_pick 15 = .ok (.ifnull 7, 3) := by decide +kernel
theorem dX1_pick_18 : decode cX1_pick 18 = .ok (.iconst 1, 1) := by decide +kernel
theorem dX1_pick_19 : decode cX1_pick 19 = .ok (.goto 4, 3) := by decide +kernel
theorem dX1_pick_22 : decode cX1_pick 22 = .ok (.iconst 0, 1) := by decide +kernel
theorem dX1_pick_23 : decode cX1_pick 23 = .ok (.invokestatic 130, 3) := by decide +kernel
theorem dX1_pick_26 : decode cX1_pick 26 = .ok (.istore_n 3, 1) := by decide +kernel
theorem dX1_pick_27 : decode cX1_pick 27 = .ok (.aload_n 0, 1) := by decide +kernel
theorem dX1_pick_28 : decode cX1_pick 28 = .ok (.getfield 15, 3) := by decide +kernel
theorem dX1_pick_31 : decode cX1_pick 31 = .ok (.iload_n 2, 1) := by decide +kernel
theorem dX1_pick_32 : decode cX1_pick 32 = .ok (.aload_n 0, 1) := by decide +kernel
theorem dX1_pick_33 : decode cX1_pick 33 = .ok (.getfield 19, 3) := by decide +kernel
theorem dX1_pick_36 : decode cX1_pick 36 = .ok (.iload_n 1, 1) := by decide +kernel
theorem dX1_pick_37 : decode cX1_pick 37 = .ok (.aaload, 1) := by decide +kernel
theorem dX1_pick_38 : decode cX1_pick 38 = .ok (.aastore, 1) := by decide +kernel
theorem dX1_pick_39 : decode cX1_pick 39 = .ok (.iload_n 3, 1) := by decide +kernel
theorem dX1_pick_40 : decode cX1_pick 40 = .ok (.ireturn, 1) := by decide +kernel
def MX1_pick (g : RO) : MT := ((RX1, cX1_pick, 4, 7, 2, 12, false, some .int), [(15, 5, 1), (19, 5, 2)], [], [], [], [], 0, [(198, 2, 2, 5, 6, 1, 6, yX1_needPlace, spOf (MX1_needPlace g)), (79, 0, 1, 0, 6, 1, 6, yX1_needCard, spOf (MX1_needCard g)), (130, 0, 1, 0, 1, 0, 0, yX1_asNumber, spOf (MX1_asNumber g))], [], [], 0, g)
section
variable {g : RO} {Q : Ot → Hw → Prop} {st : List Value} {w : Hw} {k n p q : Nat} {a b : Int32} {x y : Int64} {u v : Value} {l0 l1 l2 l3 : Option Value}
theorem eX1_pick_0 : WP (MX1_pick g) Q (0, [some (.ref p), l1, l2, l3], st, w, k, n) = WP (MX1_pick g) Q (1, [some (.ref p), l1, l2, l3], .ref p :: st, w, k, n) := Eq.trans (WP_at (M := (MX1_pick g)) rfl dX1_pick_0 (Or.inr rfl)) rfl
theorem eX1_pick_0N : WP (MX1_pick g) Q (0, [some .null, l1, l2, l3], st, w, k, n) = WP (MX1_pick g) Q (1, [some .null, l1, l2, l3], .null :: st, w, k, n) := Eq.trans (WP_at (M := (MX1_pick g)) rfl dX1_pick_0 (Or.inr rfl)) rfl
theorem eX1_pick_1 : WP (MX1_pick g) Q (1, [l0, some (.int a), l2, l3], st, w, k, n) = WP (MX1_pick g) Q (2, [l0, some (.int a), l2, l3], .int a :: st, w, k, n) := Eq.trans (WP_at (M := (MX1_pick g)) rfl dX1_pick_1 (Or.inr rfl)) rfl
theorem eX1_pick_2 {z0 : Int32} : WP (MX1_pick g) Q (2, [l0, l1, l2, l3], .int z0 :: .ref p :: st, w, k, n) = (go (rd g w p) 5 (fun _ => True) ∧ wt st ≤ 8 ∧ k + 1 ≤ 2 ∧ n + 6 ≤ 12 ∧ WP (MX1_needPlace g) (kx (fun v w' => WP (MX1_pick g) Q (5, [l0, l1, l2, l3], v.toList ++ st, w', k + 1, n + 6)) (fun E w' => Q (.inr E) w')) (0, [some (.ref p), some (.int z0)], [], w, 0, 0)) := csV (As := [.int z0]) (rest := st) (MX1_needPlace g) rfl dX1_pick_2 rfl (by decide) (Nat.le_of_ble_eq_true rfl) (Nat.le_of_ble_eq_true rfl) rfl
theorem eX1_pick_5 : WP (MX1_pick g) Q (5, [l0, l1, some (.int a), l3], st, w, k, n) = WP (MX1_pick g) Q (6, [l0, l1, some (.int a), l3], .int a :: st, w, k, n) := Eq.trans (WP_at (M := (MX1_pick g)) rfl dX1_pick_5 (Or.inr rfl)) rfl
theorem eX1_pick_6 {z0 : Int32} : WP (MX1_pick g) Q (6, [l0, l1, l2, l3], .int z0 :: st, w, k, n) = (wt st ≤ 8 ∧ k + 1 ≤ 2 ∧ n + 6 ≤ 12 ∧ WP (MX1_needCard g) (kx (fun v w' => WP (MX1_pick g) Q (9, [l0, l1, l2, l3], v.toList ++ st, w', k + 1, n + 6)) (fun E w' => Q (.inr E) w')) (0, [some (.int z0)], [], w, 0, 0)) := csS (As := [.int z0]) (rest := st) (MX1_needCard g) rfl dX1_pick_6 (Nat.ne_of_beq_eq_false rfl) rfl (by decide) (Nat.le_of_ble_eq_true rfl) (Nat.le_of_ble_eq_true rfl) rfl
theorem eX1_pick_9 : WP (MX1_pick g) Q (9, [some (.ref p), l1, l2, l3], st, w, k, n) = WP (MX1_pick g) Q (10, [some (.ref p), l1, l2, l3], .ref p :: st, w, k, n) := Eq.trans (WP_at (M := (MX1_pick g)) rfl dX1_pick_9 (Or.inr rfl)) rfl
theorem eX1_pick_9N : WP (MX1_pick g) Q (9, [some .null, l1, l2, l3], st, w, k, n) = WP (MX1_pick g) Q (10, [some .null, l1, l2, l3], .null :: st, w, k, n) := Eq.trans (WP_at (M := (MX1_pick g)) rfl dX1_pick_9 (Or.inr rfl)) rfl
theorem eX1_pick_10 : WP (MX1_pick g) Q (10, [l0, l1, l2, l3], .ref p :: st, w, k, n) = go (rd g w p) 5 fun fs => ∃ v, fs[1]? = some v ∧ WP (MX1_pick g) Q (13, [l0, l1, l2, l3], v :: st, w, k, n) := get_e rfl dX1_pick_10 rfl
theorem eX1_pick_13 : WP (MX1_pick g) Q (13, [l0, l1, some (.int a), l3], st, w, k, n) = WP (MX1_pick g) Q (14, [l0, l1, some (.int a), l3], .int a :: st, w, k, n) := Eq.trans (WP_at (M := (MX1_pick g)) rfl dX1_pick_13 (Or.inr rfl)) rfl
theorem eX1_pick_14 : WP (MX1_pick g) Q (14, [l0, l1, l2, l3], .int a :: .ref p :: st, w, k, n) = gq (rd g w p) fun t N f => (t = 4 ∨ t = 5) ∧ vp_in a N ∧ WP (MX1_pick g) Q (15, [l0, l1, l2, l3], va_rf (f a.toNatClampNeg) :: st, w, k, n) := Eq.trans (WP_at (M := (MX1_pick g)) rfl dX1_pick_14 (Or.inr rfl)) rfl
theorem eX1_pick_15R : WP (MX1_pick g) Q (15, [l0, l1, l2, l3], .ref p :: st, w, k, n) = WP (MX1_pick g) Q (18, [l0, l1, l2, l3], st, w, k, n) := ifnullR_e rfl dX1_pick_15 (tgt := 22) (by decide)
theorem eX1_pick_15N : WP (MX1_pick g) Q (15, [l0, l1, l2, l3], .null :: st, w, k, n) = WP (MX1_pick g) Q (22, [l0, l1, l2, l3], st, w, k, n) := ifnullN_e rfl dX1_pick_15 (tgt := 22) (by decide)
theorem eX1_pick_18 : WP (MX1_pick g) Q (18, [l0, l1, l2, l3], st, w, k, n) = WP (MX1_pick g) Q (19, [l0, l1, l2, l3], .int 1 :: st, w, k, n) := iconst_e rfl dX1_pick_18 (by decide)
theorem eX1_pick_19 : WP (MX1_pick g) Q (19, [l0, l1, l2, l3], st, w, k, n) = WP (MX1_pick g) Q (23, [l0, l1, l2, l3], st, w, k, n) := goto_e rfl dX1_pick_19 (by decide)
theorem eX1_pick_22 : WP (MX1_pick g) Q (22, [l0, l1, l2, l3], st, w, k, n) = WP (MX1_pick g) Q (23, [l0, l1, l2, l3], .int 0 :: st, w, k, n) := iconst_e rfl dX1_pick_22 (by decide)
theorem eX1_pick_23 {z0 : Int32} : WP (MX1_pick g) Q (23, [l0, l1, l2, l3], .int z0 :: st, w, k, n) = (wt st ≤ 8 ∧ k + 0 ≤ 2 ∧ n + 0 ≤ 12 ∧ WP (MX1_asNumber g) (kx (fun v w' => WP (MX1_pick g) Q (26, [l0, l1, l2, l3], v.toList ++ st, w', k + 0, n + 0)) (fun E w' => Q (.inr E) w')) (0, [some (.int z0)], [], w, 0, 0)) := csS (As := [.int z0]) (rest := st) (MX1_asNumber g) rfl dX1_pick_23 (Nat.ne_of_beq_eq_false rfl) rfl (by decide) (Nat.le_of_ble_eq_true rfl) (Nat.le_of_ble_eq_true rfl) rfl
theorem eX1_pick_26 : WP (MX1_pick g) Q (26, [l0, l1, l2, l3], .int a :: st, w, k, n) = WP (MX1_pick g) Q (27, [l0, l1, nl l2, some (.int a)], st, w, k, n) := by rw [WP_at (M := (MX1_pick g)) rfl dX1_pick_26 (Or.inr rfl)]; exact and_t (Nat.le_of_ble_eq_true rfl)
theorem eX1_pick_27 : WP (MX1_pick g) Q (27, [some (.ref p), l1, l2, l3], st, w, k, n) = WP (MX1_pick g) Q (28, [some (.ref p), l1, l2, l3], .ref p :: st, w, k, n) := Eq.trans (WP_at (M := (MX1_pick g)) rfl dX1_pick_27 (Or.inr rfl)) rfl
theorem eX1_pick_27N : WP (MX1_pick g) Q (27, [some .null, l1, l2, l3], st, w, k, n) = WP (MX1_pick g) Q (28, [some .null, l1, l2, l3], .null :: st, w, k, n) := Eq.trans (WP_at (M := (MX1_pick g)) rfl dX1_pick_27 (Or.inr rfl)) rfl
theorem eX1_pick_28 : WP (MX1_pick g) Q (28, [l0, l1, l2, l3], .ref p :: st, w, k, n) = go (rd g w p) 5 fun fs => ∃ v, fs[1]? = some v ∧ WP (MX1_pick g) Q (31, [l0, l1, l2, l3], v :: st, w, k, n) := get_e rfl dX1_pick_28 rfl
theorem eX1_pick_31 : WP (MX1_pick g) Q (31, [l0, l1, some (.int a), l3], st, w, k, n) = WP (MX1_pick g) Q (32, [l0, l1, some (.int a), l3], .int a :: st, w, k, n) := Eq.trans (WP_at (M := (MX1_pick g)) rfl dX1_pick_31 (Or.inr rfl)) rfl
theorem eX1_pick_32 : WP (MX1_pick g) Q (32, [some (.ref p), l1, l2, l3], st, w, k, n) = WP (MX1_pick g) Q (33, [some (.ref p), l1, l2, l3], .ref p :: st, w, k, n) := Eq.trans (WP_at (M := (MX1_pick g)) rfl dX1_pick_32 (Or.inr rfl)) rfl
theorem eX1_pick_32N : WP (MX1_pick g) Q (32, [some .null, l1, l2, l3], st, w, k, n) = WP (MX1_pick g) Q (33, [some .null, l1, l2, l3], .null :: st, w, k, n) := Eq.trans (WP_at (M := (MX1_pick g)) rfl dX1_pick_32 (Or.inr rfl)) rfl
theorem eX1_pick_33 : WP (MX1_pick g) Q (33, [l0, l1, l2, l3], .ref p :: st, w, k, n) = go (rd g w p) 5 fun fs => ∃ v, fs[2]? = some v ∧ WP (MX1_pick g) Q (36, [l0, l1, l2, l3], v :: st, w, k, n) := get_e rfl dX1_pick_33 rfl
theorem eX1_pick_36 : WP (MX1_pick g) Q (36, [l0, some (.int a), l2, l3], st, w, k, n) = WP (MX1_pick g) Q (37, [l0, some (.int a), l2, l3], .int a :: st, w, k, n) := Eq.trans (WP_at (M := (MX1_pick g)) rfl dX1_pick_36 (Or.inr rfl)) rfl
theorem eX1_pick_37 : WP (MX1_pick g) Q (37, [l0, l1, l2, l3], .int a :: .ref p :: st, w, k, n) = gq (rd g w p) fun t N f => (t = 4 ∨ t = 5) ∧ vp_in a N ∧ WP (MX1_pick g) Q (38, [l0, l1, l2, l3], va_rf (f a.toNatClampNeg) :: st, w, k, n) := Eq.trans (WP_at (M := (MX1_pick g)) rfl dX1_pick_37 (Or.inr rfl)) rfl
theorem eX1_pick_38N : WP (MX1_pick g) Q (38, [l0, l1, l2, l3], .null :: .int a :: .ref p :: st, w, k, n) = gq (w p) fun t N f => vp_in a N ∧ (t = 4 ∨ t = 5) ∧ WP (MX1_pick g) Q (39, [l0, l1, l2, l3], st, upw w p (.inl (t, N, .inr (.inr (.inr (.inr (va_up f a.toNatClampNeg none)))))), k, n) := aastN_e rfl dX1_pick_38
theorem eX1_pick_38R : WP (MX1_pick g) Q (38, [l0, l1, l2, l3], .ref q :: .int a :: .ref p :: st, w, k, n) = gq (w p) fun t N f => vp_in a N ∧ ((t = 4 ∧ go (w q) 4 fun _ => True) ∨ (t = 5 ∧ gl (w q) 0 fun _ _ => True)) ∧ WP (MX1_pick g) Q (39, [l0, l1, l2, l3], st, upw w p (.inl (t, N, .inr (.inr (.inr (.inr (va_up f a.toNatClampNeg (some q))))))), k, n) := aastR_e rfl dX1_pick_38
theorem eX1_pick_39 : WP (MX1_pick g) Q (39, [l0, l1, l2, some (.int a)], st, w, k, n) = WP (MX1_pick g) Q (40, [l0, l1, l2, some (.int a)], .int a :: st, w, k, n) := Eq.trans (WP_at (M := (MX1_pick g)) rfl dX1_pick_39 (Or.inr rfl)) rfl
theorem eX1_pick_40 : WP (MX1_pick g) Q (40, [l0, l1, l2, l3], [.int a], w, k, n) = (k ≤ 2 ∧ n ≤ 12 ∧ Q (.inl (some (.int a))) w) := (iret_e rfl dX1_pick_40 rfl).trans (and_t rfl)
end
theorem wk_1098 : (.code yX1_needPlace cX1_needPlace 2 (none) : Jvm.Cond) ∈ WS := WS_at 1098 (by decide +kernel) rfl
theorem wk_1095 : (.methodLink RX1 198 yX1_needPlace : Jvm.Cond) ∈ WS := WS_at 1095 (by decide +kernel) rfl
theorem wk_1097 : (.instanceMethod yX1_needPlace : Jvm.Cond) ∈ WS := WS_at 1097 (by decide +kernel) rfl
theorem wk_33 : (.selects RX1 yX1_needPlace yX1_needPlace : Jvm.Cond) ∈ WS := WS_at 33 (by decide +kernel) rfl
theorem vMX1_pick {l : Launch} (hl : l.stackTraces = false) (G : GT) : vM l G (MX1_pick (gg G)) := ⟨fun i c j h => lookup_all (l := (MX1_pick (gg G)).fld) (P := fun i e => vFld RX1 i e.1 e.2) (all_c (vF_RX1_15) (all_c (vF_RX1_19) (all_n))) i (c, j) h, fun i c fs h => lookup_all (l := (MX1_pick (gg G)).new) (P := fun i e => vNew RX1 i e.1 e.2) (all_n) i (c, fs) h, lookup_all (l := (MX1_pick (gg G)).anew) (P := fun i e => vANew RX1 i e) (all_n), lookup_all (l := (MX1_pick (gg G)).lng) (P := fun i e => Jvm.Cond.constantLong RX1 i e ∈ WS) (all_n), lookup_all (l := (MX1_pick (gg G)).thr) (P := fun i e => vThr RX1 cX1_pick i e) (all_n), fun h => absurd rfl h, lookup_all (l := (MX1_pick (gg G)).cal) (P := fun i e => vCal l G RX1 i e) (all_c (⟨cX1_needPlace, 2, none, fun y hy => by subst hy; exact ⟨by decide, wk_1098, okX1_needPlace hl, wk_59, ⟨(by decide : yX1_needPlace.cls ≠ "java/lang/invoke/MethodHandle"), (by decide : yX1_needPlace.cls ≠ "java/lang/invoke/VarHandle")⟩, ⟨(by decide +kernel : (parseMethodDescriptor yX1_needPlace.desc).map (fun d => d.parameters.length + 1) = some 2), wk_1095, wk_1097, wk_33, (RX1, TX1, 7), rfl, rfl⟩⟩⟩) (all_c (⟨cX1_needCard, 1, none, fun y hy => by subst hy; exact ⟨by decide, wk_818, okX1_needCard hl, wk_59, ⟨(by decide : yX1_needCard.cls ≠ "java/lang/invoke/MethodHandle"), (by decide : yX1_needCard.cls ≠ "java/lang/invoke/VarHandle")⟩, ⟨(by decide +kernel : (parseMethodDescriptor yX1_needCard.desc).map (fun d => d.parameters.length) = some 1), wk_816, wk_817⟩⟩⟩) (all_c (⟨cX1_asNumber, 1, some .int, fun y hy => by subst hy; exact ⟨by decide, wk_263, okX1_asNumber hl, wk_59, ⟨(by decide : yX1_asNumber.cls ≠ "java/lang/invoke/MethodHandle"), (by decide : yX1_asNumber.cls ≠ "java/lang/invoke/VarHandle")⟩, ⟨(by decide +kernel : (parseMethodDescriptor yX1_asNumber.desc).map (fun d => d.parameters.length) = some 1), wk_261, wk_262⟩⟩⟩) (all_n)))), lookup_all (l := (MX1_pick (gg G)).stt) (P := fun i e => vStt G RX1 i e) (all_n), lookup_all (l := (MX1_pick (gg G)).cst) (P := fun i e => vCst RX1 i e) (all_n), fun h => absurd rfl h, rfl⟩
theorem okX1_pick {l : Launch} (hl : l.stackTraces = false) {G : GT} : ∀ (args : List Value) (w : Hw) (S : Ot → Hw → Prop), spOf (MX1_pick (gg G)) args w S → CX l G yX1_pick (.code yX1_pick cX1_pick 4 (some .int)) 7 2 12 args w S := CX_sp (M := MX1_pick (gg G)) (y := yX1_pick) hl (by decide) rfl (vMX1_pick hl G) (fun h => by cases h)
/-! Rangecard.turn()I -/
theorem dX1_turn_0 : decode cX1_turn 0 = .ok (.iconst 0, 1) := by decide +kernel
theorem dX1_turn_1 : decode cX1_turn 1 = .ok (.istore_n 1, 1) := by decide +kernel
theorem dX1_turn_2 : decode cX1_turn 2 = .ok (.iload_n 1, 1) := by decide +kernel
theorem dX1_turn_3 : decode cX1_turn 3 = .ok (.aload_n 0, 1) := by decide +kernel
theorem dX1_turn_4 : decode cX1_turn 4 = .ok (.getfield 22, 3) := by decide +kernel
theorem dX1_turn_7 : decode cX1_turn 7 = .ok (.iconst 2, 1) := by decide +kernel
theorem dX1_turn_8 : decode cX1_turn 8 = .ok (.idiv, 1) := by decide +kernel
theorem dX1_turn_9 : decode cX1_turn 9 = .ok (.if_icmp .ge 44, 3) := by decide +kernel
theorem dX1_turn_12 : decode cX1_turn 12 = .ok (.aload_n 0, 1) := by decide +kernel
theorem dX1_turn_13 : decode cX1_turn 13 = .ok (.getfield 22, 3) := by decide +kernel
theorem dX1_turn_16 : decode cX1_turn 16 = .ok (.iconst 1, 1) := by decide +kernel
theorem dX1_turn_17 : decode cX1_turn 17 = .ok (.isub, 1) := by decide +kernel
theorem dX1_turn_18 : decode cX1_turn 18 = .ok (.iload_n 1, 1) := by decide +kernel
theorem dX1_turn_19 : decode cX1_turn 19 = .ok (.isub, 1) := by decide +kernel
theorem dX1_turn_20 : decode cX1_turn 20 = .ok (.istore_n 2, 1) := by decide +kernel
theorem dX1_turn_21 : decode cX1_turn 21 = .ok (.aload_n 0, 1) := by decide +kernel
theorem dX1_turn_22 : decode cX1_turn 22 = .ok (.getfield 19, 3) := by decide +kernel
theorem dX1_turn_25 : decode cX1_turn 25 = .ok (.iload_n 1, 1) := by decide +kernel
theorem dX1_turn_26 : decode cX1_turn 26 = .ok (.aaload, 1) := by decide +kernel
theorem dX1_turn_27 : decode cX1_turn 27 = .ok (.astore_n 3, 1) := by decide +kernel
theorem dX1_turn_28 : decode cX1_turn 28 = .ok (.aload_n 0, 1) := by decide +kernel
theorem dX1_turn_29 : decode cX1_turn 29 = .ok (.getfield 19, 3) := by decide +kernel
theorem dX1_turn_32 : decode cX1_turn 32 = .ok (.iload_n 1, 1) := by decide +kernel
theorem dX1_turn_33 : decode cX1_turn 33 = .ok (.aload_n 0, 1) := by decide +kernel
theorem dX1_turn_34 : decode cX1_turn 34 = .ok (.getfield 19, 3) := by decide +kernel
theorem dX1_turn_37 : decode cX1_turn 37 = .ok (.iload_n 2, 1) := by decide +kernel
theorem dX1_turn_38 : decode cX1_turn 38 = .ok (.aaload, 1) := by decide +kernel
theorem dX1_turn_39 : decode cX1_turn 39 = .ok (.aastore, 1) := by decide +kernel
theorem dX1_turn_40 : decode cX1_turn 40 = .ok (.aload_n 0, 1) := by decide +kernel
theorem dX1_turn_41 : decode cX1_turn 41 = .ok (.getfield 19, 3) := by decide +kernel
theorem dX1_turn_44 : decode cX1_turn 44 = .ok (.iload_n 2, 1) := by decide +kernel
theorem dX1_turn_45 : decode cX1_turn 45 = .ok (.aload_n 3, 1) := by decide +kernel
theorem dX1_turn_46 : decode cX1_turn 46 = .ok (.aastore, 1) := by decide +kernel
theorem dX1_turn_47 : decode cX1_turn 47 = .ok (.iinc 1 1, 3) := by decide +kernel
theorem dX1_turn_50 : decode cX1_turn 50 = .ok (.goto (-48), 3) := by decide +kernel
theorem dX1_turn_53 : decode cX1_turn 53 = .ok (.aload_n 0, 1) := by decide +kernel
theorem dX1_turn_54 : decode cX1_turn 54 = .ok (.getfield 22, 3) := by decide +kernel
theorem dX1_turn_57 : decode cX1_turn 57 = .ok (.ireturn, 1) := by decide +kernel
def MX1_turn (g : RO) : MT := ((RX1, cX1_turn, 4, 1, 0, 0, false, some .int), [(22, 5, 3), (19, 5, 2)], [], [], [], [], 0, [], [], [], 0, g)
section
variable {g : RO} {Q : Ot → Hw → Prop} {st : List Value} {w : Hw} {k n p q : Nat} {a b : Int32} {x y : Int64} {u v : Value} {l0 l1 l2 l3 : Option Value}
theorem eX1_turn_0 : WP (MX1_turn g) Q (0, [l0, l1, l2, l3], st, w, k, n) = WP (MX1_turn g) Q (1, [l0, l1, l2, l3], .int 0 :: st, w, k, n) := iconst_e rfl dX1_turn_0 (by decide)
theorem eX1_turn_1 : WP (MX1_turn g) Q (1, [l0, l1, l2, l3], .int a :: st, w, k, n) = WP (MX1_turn g) Q (2, [nl l0, some (.int a), l2, l3], st, w, k, n) := by rw [WP_at (M := (MX1_turn g)) rfl dX1_turn_1 (Or.inr rfl)]; exact and_t (Nat.le_of_ble_eq_true rfl)
theorem eX1_turn_2 : WP (MX1_turn g) Q (2, [l0, some (.int a), l2, l3], st, w, k, n) = WP (MX1_turn g) Q (3, [l0, some (.int a), l2, l3], .int a :: st, w, k, n) := Eq.trans (WP_at (M := (MX1_turn g)) rfl dX1_turn_2 (Or.inr rfl)) rfl
theorem eX1_turn_3 : WP (MX1_turn g) Q (3, [some (.ref p), l1, l2, l3], st, w, k, n) = WP (MX1_turn g) Q (4, [some (.ref p), l1, l2, l3], .ref p :: st, w, k, n) := Eq.trans (WP_at (M := (MX1_turn g)) rfl dX1_turn_3 (Or.inr rfl)) rfl
theorem eX1_turn_3N : WP (MX1_turn g) Q (3, [some .null, l1, l2, l3], st, w, k, n) = WP (MX1_turn g) Q (4, [some .null, l1, l2, l3], .null :: st, w, k, n) := Eq.trans (WP_at (M := (MX1_turn g)) rfl dX1_turn_3 (Or.inr rfl)) rfl
theorem eX1_turn_4 : WP (MX1_turn g) Q (4, [l0, l1, l2, l3], .ref p :: st, w, k, n) = go (rd g w p) 5 fun fs => ∃ v, fs[3]? = some v ∧ WP (MX1_turn g) Q (7, [l0, l1, l2, l3], v :: st, w, k, n) := get_e rfl dX1_turn_4 rfl
theorem eX1_turn_7 : WP (MX1_turn g) Q (7, [l0, l1, l2, l3], st, w, k, n) = WP (MX1_turn g) Q (8, [l0, l1, l2, l3], .int 2 :: st, w, k, n) := iconst_e rfl dX1_turn_7 (by decide)
theorem eX1_turn_8 : WP (MX1_turn g) Q (8, [l0, l1, l2, l3], .int b :: .int a :: st, w, k, n) = (¬ b = 0 ∧ WP (MX1_turn g) Q (9, [l0, l1, l2, l3], .int (a / b) :: st, w, k, n)) := Eq.trans (WP_at (M := (MX1_turn g)) rfl dX1_turn_8 (Or.inr rfl)) rfl
theorem eX1_turn_9 : WP (MX1_turn g) Q (9, [l0, l1, l2, l3], .int b :: .int a :: st, w, k, n) = if b ≤ a then WP (MX1_turn g) Q (53, [l0, l1, l2, l3], st, w, k, n) else WP (MX1_turn g) Q (12, [l0, l1, l2, l3], st, w, k, n) := icm_e (b ≤ a) rfl dX1_turn_9 rfl (by decide)
theorem eX1_turn_12 : WP (MX1_turn g) Q (12, [some (.ref p), l1, l2, l3], st, w, k, n) = WP (MX1_turn g) Q (13, [some (.ref p), l1, l2, l3], .ref p :: st, w, k, n) := Eq.trans (WP_at (M := (MX1_turn g)) rfl dX1_turn_12 (Or.inr rfl)) rfl
theorem eX1_turn_12N : WP (MX1_turn g) Q (12, [some .null, l1, l2, l3], st, w, k, n) = WP (MX1_turn g) Q (13, [some .null, l1, l2, l3], .null :: st, w, k, n) := Eq.trans (WP_at (M := (MX1_turn g)) rfl dX1_turn_12 (Or.inr rfl)) rfl
theorem eX1_turn_13 : WP (MX1_turn g) Q (13, [l0, l1, l2, l3], .ref p :: st, w, k, n) = go (rd g w p) 5 fun fs => ∃ v, fs[3]? = some v ∧ WP (MX1_turn g) Q (16, [l0, l1, l2, l3], v :: st, w, k, n) := get_e rfl dX1_turn_13 rfl
theorem eX1_turn_16 : WP (MX1_turn g) Q (16, [l0, l1, l2, l3], st, w, k, n) = WP (MX1_turn g) Q (17, [l0, l1, l2, l3], .int 1 :: st, w, k, n) := iconst_e rfl dX1_turn_16 (by decide)
theorem eX1_turn_17 : WP (MX1_turn g) Q (17, [l0, l1, l2, l3], .int b :: .int a :: st, w, k, n) = WP (MX1_turn g) Q (18, [l0, l1, l2, l3], .int (a - b) :: st, w, k, n) := Eq.trans (WP_at (M := (MX1_turn g)) rfl dX1_turn_17 (Or.inr rfl)) rfl
theorem eX1_turn_18 : WP (MX1_turn g) Q (18, [l0, some (.int a), l2, l3], st, w, k, n) = WP (MX1_turn g) Q (19, [l0, some (.int a), l2, l3], .int a :: st, w, k, n) := Eq.trans (WP_at (M := (MX1_turn g)) rfl dX1_turn_18 (Or.inr rfl)) rfl
theorem eX1_turn_19 : WP (MX1_turn g) Q (19, [l0, l1, l2, l3], .int b :: .int a :: st, w, k, n) = WP (MX1_turn g) Q (20, [l0, l1, l2, l3], .int (a - b) :: st, w, k, n) := Eq.trans (WP_at (M := (MX1_turn g)) rfl dX1_turn_19 (Or.inr rfl)) rfl
theorem eX1_turn_20 : WP (MX1_turn g) Q (20, [l0, l1, l2, l3], .int a :: st, w, k, n) = WP (MX1_turn g) Q (21, [l0, nl l1, some (.int a), l3], st, w, k, n) := by rw [WP_at (M := (MX1_turn g)) rfl dX1_turn_20 (Or.inr rfl)]; exact and_t (Nat.le_of_ble_eq_true rfl)
theorem eX1_turn_21 : WP (MX1_turn g) Q (21, [some (.ref p), l1, l2, l3], st, w, k, n) = WP (MX1_turn g) Q (22, [some (.ref p), l1, l2, l3], .ref p :: st, w, k, n) := Eq.trans (WP_at (M := (MX1_turn g)) rfl dX1_turn_21 (Or.inr rfl)) rfl
theorem eX1_turn_21N : WP (MX1_turn g) Q (21, [some .null, l1, l2, l3], st, w, k, n) = WP (MX1_turn g) Q (22, [some .null, l1, l2, l3], .null :: st, w, k, n) := Eq.trans (WP_at (M := (MX1_turn g)) rfl dX1_turn_21 (Or.inr rfl)) rfl
theorem eX1_turn_22 : WP (MX1_turn g) Q (22, [l0, l1, l2, l3], .ref p :: st, w, k, n) = go (rd g w p) 5 fun fs => ∃ v, fs[2]? = some v ∧ WP (MX1_turn g) Q (25, [l0, l1, l2, l3], v :: st, w, k, n) := get_e rfl dX1_turn_22 rfl
theorem eX1_turn_25 : WP (MX1_turn g) Q (25, [l0, some (.int a), l2, l3], st, w, k, n) = WP (MX1_turn g) Q (26, [l0, some (.int a), l2, l3], .int a :: st, w, k, n) := Eq.trans (WP_at (M := (MX1_turn g)) rfl dX1_turn_25 (Or.inr rfl)) rfl
theorem eX1_turn_26 : WP (MX1_turn g) Q (26, [l0, l1, l2, l3], .int a :: .ref p :: st, w, k, n) = gq (rd g w p) fun t N f => (t = 4 ∨ t = 5) ∧ vp_in a N ∧ WP (MX1_turn g) Q (27, [l0, l1, l2, l3], va_rf (f a.toNatClampNeg) :: st, w, k, n) := Eq.trans (WP_at (M := (MX1_turn g)) rfl dX1_turn_26 (Or.inr rfl)) rfl
theorem eX1_turn_27 : WP (MX1_turn g) Q (27, [l0, l1, l2, l3], .ref p :: st, w, k, n) = WP (MX1_turn g) Q (28, [l0, l1, nl l2, some (.ref p)], st, w, k, n) := by rw [WP_at (M := (MX1_turn g)) rfl dX1_turn_27 (Or.inr rfl)]; exact and_t (Nat.le_of_ble_eq_true rfl)
theorem eX1_turn_27N : WP (MX1_turn g) Q (27, [l0, l1, l2, l3], .null :: st, w, k, n) = WP (MX1_turn g) Q (28, [l0, l1, nl l2, some (.null)], st, w, k, n) := by rw [WP_at (M := (MX1_turn g)) rfl dX1_turn_27 (Or.inr rfl)]; exact and_t (Nat.le_of_ble_eq_true rfl)
theorem eX1_turn_28 : WP (MX1_turn g) Q (28, [some (.ref p), l1, l2, l3], st, w, k, n) = WP (MX1_turn g) Q (29, [some (.ref p), l1, l2, l3], .ref p :: st, w, k, n) := Eq.trans (WP_at (M := (MX1_turn g)) rfl dX1_turn_28 (Or.inr rfl)) rfl
theorem eX1_turn_28N : WP (MX1_turn g) Q (28, [some .null, l1, l2, l3], st, w, k, n) = WP (MX1_turn g) Q (29, [some .null, l1, l2, l3], .null :: st, w, k, n) := Eq.trans (WP_at (M := (MX1_turn g)) rfl dX1_turn_28 (Or.inr rfl)) rfl
theorem eX1_turn_29 : WP (MX1_turn g) Q (29, [l0, l1, l2, l3], .ref p :: st, w, k, n) = go (rd g w p) 5 fun fs => ∃ v, fs[2]? = some v ∧ WP (MX1_turn g) Q (32, [l0, l1, l2, l3], v :: st, w, k, n) := get_e rfl dX1_turn_29 rfl
theorem eX1_turn_32 : WP (MX1_turn g) Q (32, [l0, some (.int a), l2, l3], st, w, k, n) = WP (MX1_turn g) Q (33, [l0, some (.int a), l2, l3], .int a :: st, w, k, n) := Eq.trans (WP_at (M := (MX1_turn g)) rfl dX1_turn_32 (Or.inr rfl)) rfl
theorem eX1_turn_33 : WP (MX1_turn g) Q (33, [some (.ref p), l1, l2, l3], st, w, k, n) = WP (MX1_turn g) Q (34, [some (.ref p), l1, l2, l3], .ref p :: st, w, k, n) := Eq.trans (WP_at (M := (MX1_turn g)) rfl dX1_turn_33 (Or.inr rfl)) rfl
theorem eX1_turn_33N : WP (MX1_turn g) Q (33, [some .null, l1, l2, l3], st, w, k, n) = WP (MX1_turn g) Q (34, [some .null, l1, l2, l3], .null :: st, w, k, n) := Eq.trans (WP_at (M := (MX1_turn g)) rfl dX1_turn_33 (Or.inr rfl)) rfl
theorem eX1_turn_34 : WP (MX1_turn g) Q (34, [l0, l1, l2, l3], .ref p :: st, w, k, n) = go (rd g w p) 5 fun fs => ∃ v, fs[2]? = some v ∧ WP (MX1_turn g) Q (37, [l0, l1, l2, l3], v :: st, w, k, n) := get_e rfl dX1_turn_34 rfl
theorem eX1_turn_37 : WP (MX1_turn g) Q (37, [l0, l1, some (.int a), l3], st, w, k, n) = WP (MX1_turn g) Q (38, [l0, l1, some (.int a), l3], .int a :: st, w, k, n) := Eq.trans (WP_at (M := (MX1_turn g)) rfl dX1_turn_37 (Or.inr rfl)) rfl
theorem eX1_turn_38 : WP (MX1_turn g) Q (38, [l0, l1, l2, l3], .int a :: .ref p :: st, w, k, n) = gq (rd g w p) fun t N f => (t = 4 ∨ t = 5) ∧ vp_in a N ∧ WP (MX1_turn g) Q (39, [l0, l1, l2, l3], va_rf (f a.toNatClampNeg) :: st, w, k, n) := Eq.trans (WP_at (M := (MX1_turn g)) rfl dX1_turn_38 (Or.inr rfl)) rfl
theorem eX1_turn_39N : WP (MX1_turn g) Q (39, [l0, l1, l2, l3], .null :: .int a :: .ref p :: st, w, k, n) = gq (w p) fun t N f => vp_in a N ∧ (t = 4 ∨ t = 5) ∧ WP (MX1_turn g) Q (40, [l0, l1, l2, l3], st, upw w p (.inl (t, N, .inr (.inr (.inr (.inr (va_up f a.toNatClampNeg none)))))), k, n) := aastN_e rfl dX1_turn_39
theorem eX1_turn_39R : WP (MX1_turn g) Q (39, [l0, l1, l2, l3], .ref q :: .int a :: .ref p :: st, w, k, n) = gq (w p) fun t N f => vp_in a N ∧ ((t = 4 ∧ go (w q) 4 fun _ => True) ∨ (t = 5 ∧ gl (w q) 0 fun _ _ => True)) ∧ WP (MX1_turn g) Q (40, [l0, l1, l2, l3], st, upw w p (.inl (t, N, .inr (.inr (.inr (.inr (va_up f a.toNatClampNeg (some q))))))), k, n) := aastR_e rfl dX1_turn_39
theorem eX1_turn_40 : WP (MX1_turn g) Q (40, [some (.ref p), l1, l2, l3], st, w, k, n) = WP (MX1_turn g) Q (41, [some (.ref p), l1, l2, l3], .ref p :: st, w, k, n) := Eq.trans (WP_at (M := (MX1_turn g)) rfl dX1_turn_40 (Or.inr rfl)) rfl
theorem eX1_turn_40N : WP (MX1_turn g) Q (40, [some .null, l1, l2, l3], st, w, k, n) = WP (MX1_turn g) Q (41, [some .null, l1, l2, l3], .null :: st, w, k, n) := Eq.trans (WP_at (M := (MX1_turn g)) rfl dX1_turn_40 (Or.inr rfl)) rfl
theorem eX1_turn_41 : WP (MX1_turn g) Q (41, [l0, l1, l2, l3], .ref p :: st, w, k, n) = go (rd g w p) 5 fun fs => ∃ v, fs[2]? = some v ∧ WP (MX1_turn g) Q (44, [l0, l1, l2, l3], v :: st, w, k, n) := get_e rfl dX1_turn_41 rfl
theorem eX1_turn_44 : WP (MX1_turn g) Q (44, [l0, l1, some (.int a), l3], st, w, k, n) = WP (MX1_turn g) Q (45, [l0, l1, some (.int a), l3], .int a :: st, w, k, n) := Eq.trans (WP_at (M := (MX1_turn g)) rfl dX1_turn_44 (Or.inr rfl)) rfl
theorem eX1_turn_45 : WP (MX1_turn g) Q (45, [l0, l1, l2, some (.ref p)], st, w, k, n) = WP (MX1_turn g) Q (46, [l0, l1, l2, some (.ref p)], .ref p :: st, w, k, n) := Eq.trans (WP_at (M := (MX1_turn g)) rfl dX1_turn_45 (Or.inr rfl)) rfl
theorem eX1_turn_45N : WP (MX1_turn g) Q (45, [l0, l1, l2, some .null], st, w, k, n) = WP (MX1_turn g) Q (46, [l0, l1, l2, some .null], .null :: st, w, k, n) := Eq.trans (WP_at (M := (MX1_turn g)) rfl dX1_turn_45 (Or.inr rfl)) rfl
theorem eX1_turn_46N : WP (MX1_turn g) Q (46, [l0, l1, l2, l3], .null :: .int a :: .ref p :: st, w, k, n) = gq (w p) fun t N f => vp_in a N ∧ (t = 4 ∨ t = 5) ∧ WP (MX1_turn g) Q (47, [l0, l1, l2, l3], st, upw w p (.inl (t, N, .inr (.inr (.inr (.inr (va_up f a.toNatClampNeg none)))))), k, n) := aastN_e rfl dX1_turn_46
theorem eX1_turn_46R : WP (MX1_turn g) Q (46, [l0, l1, l2, l3], .ref q :: .int a :: .ref p :: st, w, k, n) = gq (w p) fun t N f => vp_in a N ∧ ((t = 4 ∧ go (w q) 4 fun _ => True) ∨ (t = 5 ∧ gl (w q) 0 fun _ _ => True)) ∧ WP (MX1_turn g) Q (47, [l0, l1, l2, l3], st, upw w p (.inl (t, N, .inr (.inr (.inr (.inr (va_up f a.toNatClampNeg (some q))))))), k, n) := aastR_e rfl dX1_turn_46
theorem eX1_turn_47 : WP (MX1_turn g) Q (47, [l0, some (.int a), l2, l3], st, w, k, n) = WP (MX1_turn g) Q (50, [nl l0, some (.int (a + 1)), l2, l3], st, w, k, n) := Eq.trans (iinc_e (M := (MX1_turn g)) (L := [l0, some (.int a), l2, l3]) (d := 1) rfl dX1_turn_47 (by decide) rfl) rfl
theorem eX1_turn_50 : WP (MX1_turn g) Q (50, [l0, l1, l2, l3], st, w, k, n) = WP (MX1_turn g) Q (2, [l0, l1, l2, l3], st, w, k, n) := goto_e rfl dX1_turn_50 (by decide)
theorem eX1_turn_53 : WP (MX1_turn g) Q (53, [some (.ref p), l1, l2, l3], st, w, k, n) = WP (MX1_turn g) Q (54, [some (.ref p), l1, l2, l3], .ref p :: st, w, k, n) := Eq.trans (WP_at (M := (MX1_turn g)) rfl dX1_turn_53 (Or.inr rfl)) rfl
theorem eX1_turn_53N : WP (MX1_turn g) Q (53, [some .null, l1, l2, l3], st, w, k, n) = WP (MX1_turn g) Q (54, [some .null, l1, l2, l3], .null :: st, w, k, n) := Eq.trans (WP_at (M := (MX1_turn g)) rfl dX1_turn_53 (Or.inr rfl)) rfl
theorem eX1_turn_54 : WP (MX1_turn g) Q (54, [l0, l1, l2, l3], .ref p :: st, w, k, n) = go (rd g w p) 5 fun fs => ∃ v, fs[3]? = some v ∧ WP (MX1_turn g) Q (57, [l0, l1, l2, l3], v :: st, w, k, n) := get_e rfl dX1_turn_54 rfl
theorem eX1_turn_57 : WP (MX1_turn g) Q (57, [l0, l1, l2, l3], [.int a], w, k, n) = (k ≤ 0 ∧ n ≤ 0 ∧ Q (.inl (some (.int a))) w) := (iret_e rfl dX1_turn_57 rfl).trans (and_t rfl)
end
theorem vMX1_turn {l : Launch} (hl : l.stackTraces = false) (G : GT) : vM l G (MX1_turn (gg G)) := ⟨fun i c j h => lookup_all (l := (MX1_turn (gg G)).fld) (P := fun i e => vFld RX1 i e.1 e.2) (all_c (vF_RX1_22) (all_c (vF_RX1_19) (all_n))) i (c, j) h, fun i c fs h => lookup_all (l := (MX1_turn (gg G)).new) (P := fun i e => vNew RX1 i e.1 e.2) (all_n) i (c, fs) h, lookup_all (l := (MX1_turn (gg G)).anew) (P := fun i e => vANew RX1 i e) (all_n), lookup_all (l := (MX1_turn (gg G)).lng) (P := fun i e => Jvm.Cond.constantLong RX1 i e ∈ WS) (all_n), lookup_all (l := (MX1_turn (gg G)).thr) (P := fun i e => vThr RX1 cX1_turn i e) (all_n), fun h => absurd rfl h, lookup_all (l := (MX1_turn (gg G)).cal) (P := fun i e => vCal l G RX1 i e) (all_n), lookup_all (l := (MX1_turn (gg G)).stt) (P := fun i e => vStt G RX1 i e) (all_n), lookup_all (l := (MX1_turn (gg G)).cst) (P := fun i e => vCst RX1 i e) (all_n), fun h => absurd rfl h, rfl⟩
theorem okX1_turn {l : Launch} (hl : l.stackTraces = false) {G : GT} : ∀ (args : List Value) (w : Hw) (S : Ot → Hw → Prop), spOf (MX1_turn (gg G)) args w S → CX l G yX1_turn (.code yX1_turn cX1_turn 4 (some .int)) 1 0 0 args w S := CX_sp (M := MX1_turn (gg G)) (y := yX1_turn) hl (by decide) rfl (vMX1_turn hl G) (fun h => by cases h)
/-! Rangecard.sweep()I -/
theorem dX1_sweep_0 : decode cX1_sweep 0 = .ok (.aload_n 0, 1) := by decide +kernel
theorem dX1_sweep_1 : decode cX1_sweep 1 = .ok (.getfield 22, 3) := by decide +kernel
theorem dX1_sweep_4 : decode cX1_sweep 4 = .ok (.istore_n 1, 1) := by decide +kernel
theorem dX1_sweep_5 : decode cX1_sweep 5 = .ok (.iconst 0, 1) := by decide +kernel
theorem dX1_sweep_6 : decode cX1_sweep 6 = .ok (.istore_n 2, 1) := by decide +kernel
theorem dX1_sweep_7 : decode cX1_sweep 7 = .ok (.iload_n 2, 1) := by decide +kernel
theorem dX1_sweep_8 : decode cX1_sweep 8 = .ok (.aload_n 0, 1) := by decide +kernel
theorem dX1_sweep_9 : decode cX1_sweep 9 = .ok (.getfield 19, 3) := by decide +kernel
theorem dX1_sweep_12 : decode cX1_sweep 12 = .ok (.arraylength, 1) := by decide +kernel
theorem dX1_sweep_13 : decode cX1_sweep 13 = .ok (.if_icmp .ge 16, 3) := by decide +kernel
theorem dX1_sweep_16 : decode cX1_sweep 16 = .ok (.aload_n 0, 1) := by decide +kernel
theorem dX1_sweep_17 : decode cX1_sweep 17 = .ok (.getfield 19, 3) := by decide +kernel
theorem dX1_sweep_20 : decode cX1_sweep 20 = .ok (.iload_n 2, 1) := by decide +kernel
theorem dX1_sweep_21 : decode cX1_sweep 21 = .ok (.aconst_null, 1) := by decide +kernel
theorem dX1_sweep_22 : decode cX1_sweep 22 = .ok (.aastore, 1) := by decide +kernel
theorem dX1_sweep_23 : decode cX1_sweep 23 = .ok (.iinc 2 1, 3) := by decide +kernel
theorem dX1_sweep_26 : decode cX1_sweep 26 = .ok (.goto (-19), 3) := by decide +kernel
theorem dX1_sweep_29 : decode cX1_sweep 29 = .ok (.aload_n 0, 1) := by decide +kernel
theorem dX1_sweep_30 : decode cX1_sweep 30 = .ok (.iconst 0, 1) := by decide +kernel
theorem dX1_sweep_31 : decode cX1_sweep 31 = .ok (.putfield 22, 3) := by decide +kernel
theorem dX1_sweep_34 : decode cX1_sweep 34 = .ok (.iload_n 1, 1) := by decide +kernel
theorem dX1_sweep_35 : decode cX1_sweep 35 = .ok (.ireturn, 1) := by decide +kernel
def MX1_sweep (g : RO) : MT := ((RX1, cX1_sweep, 3, 1, 0, 0, false, some .int), [(22, 5, 3), (19, 5, 2)], [], [], [], [], 0, [], [], [], 0, g)
section
variable {g : RO} {Q : Ot → Hw → Prop} {st : List Value} {w : Hw} {k n p q : Nat} {a b : Int32} {x y : Int64} {u v : Value} {l0 l1 l2 : Option Value}
theorem eX1_sweep_0 : WP (MX1_sweep g) Q (0, [some (.ref p), l1, l2], st, w, k, n) = WP (MX1_sweep g) Q (1, [some (.ref p), l1, l2], .ref p :: st, w, k, n) := Eq.trans (WP_at (M := (MX1_sweep g)) rfl dX1_sweep_0 (Or.inr rfl)) rfl
theorem eX1_sweep_0N : WP (MX1_sweep g) Q (0, [some .null, l1, l2], st, w, k, n) = WP (MX1_sweep g) Q (1, [some .null, l1, l2], .null :: st, w, k, n) := Eq.trans (WP_at (M := (MX1_sweep g)) rfl dX1_sweep_0 (Or.inr rfl)) rfl
theorem eX1_sweep_1 : WP (MX1_sweep g) Q (1, [l0, l1, l2], .ref p :: st, w, k, n) = go (rd g w p) 5 fun fs => ∃ v, fs[3]? = some v ∧ WP (MX1_sweep g) Q (4, [l0, l1, l2], v :: st, w, k, n) := get_e rfl dX1_sweep_1 rfl
theorem eX1_sweep_4 : WP (MX1_sweep g) Q (4, [l0, l1, l2], .int a :: st, w, k, n) = WP (MX1_sweep g) Q (5, [nl l0, some (.int a), l2], st, w, k, n) := by rw [WP_at (M := (MX1_sweep g)) rfl dX1_sweep_4 (Or.inr rfl)]; exact and_t (Nat.le_of_ble_eq_true rfl)
theorem eX1_sweep_5 : WP (MX1_sweep g) Q (5, [l0, l1, l2], st, w, k, n) = WP (MX1_sweep g) Q (6, [l0, l1, l2], .int 0 :: st, w, k, n) := iconst_e rfl dX1_sweep_5 (by decide)
theorem eX1_sweep_6 : WP (MX1_sweep g) Q (6, [l0, l1, l2], .int a :: st, w, k, n) = WP (MX1_sweep g) Q (7, [l0, nl l1, some (.int a)], st, w, k, n) := by rw [WP_at (M := (MX1_sweep g)) rfl dX1_sweep_6 (Or.inr rfl)]; exact and_t (Nat.le_of_ble_eq_true rfl)
theorem eX1_sweep_7 : WP (MX1_sweep g) Q (7, [l0, l1, some (.int a)], st, w, k, n) = WP (MX1_sweep g) Q (8, [l0, l1, some (.int a)], .int a :: st, w, k, n) := Eq.trans (WP_at (M := (MX1_sweep g)) rfl dX1_sweep_7 (Or.inr rfl)) rfl
theorem eX1_sweep_8 : WP (MX1_sweep g) Q (8, [some (.ref p), l1, l2], st, w, k, n) = WP (MX1_sweep g) Q (9, [some (.ref p), l1, l2], .ref p :: st, w, k, n) := Eq.trans (WP_at (M := (MX1_sweep g)) rfl dX1_sweep_8 (Or.inr rfl)) rfl
theorem eX1_sweep_8N : WP (MX1_sweep g) Q (8, [some .null, l1, l2], st, w, k, n) = WP (MX1_sweep g) Q (9, [some .null, l1, l2], .null :: st, w, k, n) := Eq.trans (WP_at (M := (MX1_sweep g)) rfl dX1_sweep_8 (Or.inr rfl)) rfl
theorem eX1_sweep_9 : WP (MX1_sweep g) Q (9, [l0, l1, l2], .ref p :: st, w, k, n) = go (rd g w p) 5 fun fs => ∃ v, fs[2]? = some v ∧ WP (MX1_sweep g) Q (12, [l0, l1, l2], v :: st, w, k, n) := get_e rfl dX1_sweep_9 rfl
theorem eX1_sweep_12 : WP (MX1_sweep g) Q (12, [l0, l1, l2], .ref p :: st, w, k, n) = ∃ t z, rd g w p = some (.inl (t, z)) ∧ t < 6 ∧ WP (MX1_sweep g) Q (13, [l0, l1, l2], .int (Int32.ofNat z.1) :: st, w, k, n) := Eq.trans (WP_at (M := (MX1_sweep g)) rfl dX1_sweep_12 (Or.inr rfl)) rfl
theorem eX1_sweep_13 : WP (MX1_sweep g) Q (13, [l0, l1, l2], .int b :: .int a :: st, w, k, n) = if b ≤ a then WP (MX1_sweep g) Q (29, [l0, l1, l2], st, w, k, n) else WP (MX1_sweep g) Q (16, [l0, l1, l2], st, w, k, n) := icm_e (b ≤ a) rfl dX1_sweep_13 rfl (by decide)
theorem eX1_sweep_16 : WP (MX1_sweep g) Q (16, [some (.ref p), l1, l2], st, w, k, n) = WP (MX1_sweep g) Q (17, [some (.ref p), l1, l2], .ref p :: st, w, k, n) := Eq.trans (WP_at (M := (MX1_sweep g)) rfl dX1_sweep_16 (Or.inr rfl)) rfl
theorem eX1_sweep_16N : WP (MX1_sweep g) Q (16, [some .null, l1, l2], st, w, k, n) = WP (MX1_sweep g) Q (17, [some .null, l1, l2], .null :: st, w, k, n) := Eq.trans (WP_at (M := (MX1_sweep g)) rfl dX1_sweep_16 (Or.inr rfl)) rfl
theorem eX1_sweep_17 : WP (MX1_sweep g) Q (17, [l0, l1, l2], .ref p :: st, w, k, n) = go (rd g w p) 5 fun fs => ∃ v, fs[2]? = some v ∧ WP (MX1_sweep g) Q (20, [l0, l1, l2], v :: st, w, k, n) := get_e rfl dX1_sweep_17 rfl
theorem eX1_sweep_20 : WP (MX1_sweep g) Q (20, [l0, l1, some (.int a)], st, w, k, n) = WP (MX1_sweep g) Q (21, [l0, l1, some (.int a)], .int a :: st, w, k, n) := Eq.trans (WP_at (M := (MX1_sweep g)) rfl dX1_sweep_20 (Or.inr rfl)) rfl
theorem eX1_sweep_21 : WP (MX1_sweep g) Q (21, [l0, l1, l2], st, w, k, n) = WP (MX1_sweep g) Q (22, [l0, l1, l2], .null :: st, w, k, n) := Eq.trans (WP_at (M := (MX1_sweep g)) rfl dX1_sweep_21 (Or.inr rfl)) rfl
theorem eX1_sweep_22N : WP (MX1_sweep g) Q (22, [l0, l1, l2], .null :: .int a :: .ref p :: st, w, k, n) = gq (w p) fun t N f => vp_in a N ∧ (t = 4 ∨ t = 5) ∧ WP (MX1_sweep g) Q (23, [l0, l1, l2], st, upw w p (.inl (t, N, .inr (.inr (.inr (.inr (va_up f a.toNatClampNeg none)))))), k, n) := aastN_e rfl dX1_sweep_22
theorem eX1_sweep_22R : WP (MX1_sweep g) Q (22, [l0, l1, l2], .ref q :: .int a :: .ref p :: st, w, k, n) = gq (w p) fun t N f => vp_in a N ∧ ((t = 4 ∧ go (w q) 4 fun _ => True) ∨ (t = 5 ∧ gl (w q) 0 fun _ _ => True)) ∧ WP (MX1_sweep g) Q (23, [l0, l1, l2], st, upw w p (.inl (t, N, .inr (.inr (.inr (.inr (va_up f a.toNatClampNeg (some q))))))), k, n) := aastR_e rfl dX1_sweep_22
theorem eX1_sweep_23 : WP (MX1_sweep g) Q (23, [l0, l1, some (.int a)], st, w, k, n) = WP (MX1_sweep g) Q (26, [l0, nl l1, some (.int (a + 1))], st, w, k, n) := Eq.trans (iinc_e (M := (MX1_sweep g)) (L := [l0, l1, some (.int a)]) (d := 1) rfl dX1_sweep_23 (by decide) rfl) rfl
theorem eX1_sweep_26 : WP (MX1_sweep g) Q (26, [l0, l1, l2], st, w, k, n) = WP (MX1_sweep g) Q (7, [l0, l1, l2], st, w, k, n) := goto_e rfl dX1_sweep_26 (by decide)
theorem eX1_sweep_29 : WP (MX1_sweep g) Q (29, [some (.ref p), l1, l2], st, w, k, n) = WP (MX1_sweep g) Q (30, [some (.ref p), l1, l2], .ref p :: st, w, k, n) := Eq.trans (WP_at (M := (MX1_sweep g)) rfl dX1_sweep_29 (Or.inr rfl)) rfl
theorem eX1_sweep_29N : WP (MX1_sweep g) Q (29, [some .null, l1, l2], st, w, k, n) = WP (MX1_sweep g) Q (30, [some .null, l1, l2], .null :: st, w, k, n) := Eq.trans (WP_at (M := (MX1_sweep g)) rfl dX1_sweep_29 (Or.inr rfl)) rfl
theorem eX1_sweep_30 : WP (MX1_sweep g) Q (30, [l0, l1, l2], st, w, k, n) = WP (MX1_sweep g) Q (31, [l0, l1, l2], .int 0 :: st, w, k, n) := iconst_e rfl dX1_sweep_30 (by decide)
theorem eX1_sweep_31 : WP (MX1_sweep g) Q (31, [l0, l1, l2], v :: .ref p :: st, w, k, n) = go (w p) 5 fun fs => 3 < fs.length ∧ (narrow (.int) v = v ∧ fits (.int) v = true) ∧ WP (MX1_sweep g) Q (34, [l0, l1, l2], st, upw w p (.inr (5, fs.set 3 v)), k, n) := put_e (q := (RX1, TX1, 7)) rfl dX1_sweep_31 rfl rfl (tyX1_ok 3 (by decide)) (Or.inl rfl)
theorem eX1_sweep_34 : WP (MX1_sweep g) Q (34, [l0, some (.int a), l2], st, w, k, n) = WP (MX1_sweep g) Q (35, [l0, some (.int a), l2], .int a :: st, w, k, n) := Eq.trans (WP_at (M := (MX1_sweep g)) rfl dX1_sweep_34 (Or.inr rfl)) rfl
theorem eX1_sweep_35 : WP (MX1_sweep g) Q (35, [l0, l1, l2], [.int a], w, k, n) = (k ≤ 0 ∧ n ≤ 0 ∧ Q (.inl (some (.int a))) w) := (iret_e rfl dX1_sweep_35 rfl).trans (and_t rfl)
end
theorem vMX1_sweep {l : Launch} (hl : l.stackTraces = false) (G : GT) : vM l G (MX1_sweep (gg G)) := ⟨fun i c j h => lookup_all (l := (MX1_sweep (gg G)).fld) (P := fun i e => vFld RX1 i e.1 e.2) (all_c (vF_RX1_22) (all_c (vF_RX1_19) (all_n))) i (c, j) h, fun i c fs h => lookup_all (l := (MX1_sweep (gg G)).new) (P := fun i e => vNew RX1 i e.1 e.2) (all_n) i (c, fs) h, lookup_all (l := (MX1_sweep (gg G)).anew) (P := fun i e => vANew RX1 i e) (all_n), lookup_all (l := (MX1_sweep (gg G)).lng) (P := fun i e => Jvm.Cond.constantLong RX1 i e ∈ WS) (all_n), lookup_all (l := (MX1_sweep (gg G)).thr) (P := fun i e => vThr RX1 cX1_sweep i e) (all_n), fun h => absurd rfl h, lookup_all (l := (MX1_sweep (gg G)).cal) (P := fun i e => vCal l G RX1 i e) (all_n), lookup_all (l := (MX1_sweep (gg G)).stt) (P := fun i e => vStt G RX1 i e) (all_n), lookup_all (l := (MX1_sweep (gg G)).cst) (P := fun i e => vCst RX1 i e) (all_n), fun h => absurd rfl h, rfl⟩
theorem okX1_sweep {l : Launch} (hl : l.stackTraces = false) {G : GT} : ∀ (args : List Value) (w : Hw) (S : Ot → Hw → Prop), spOf (MX1_sweep (gg G)) args w S → CX l G yX1_sweep (.code yX1_sweep cX1_sweep 3 (some .int)) 1 0 0 args w S := CX_sp (M := MX1_sweep (gg G)) (y := yX1_sweep) hl (by decide) rfl (vMX1_sweep hl G) (fun h => by cases h)
/-! Rangecard.pile(II)I -/
theorem dX1_pile_0 : decode cX1_pile 0 = .ok (.iload_n 1, 1) := by decide +kernel
theorem dX1_pile_1 : decode cX1_pile 1 = .ok (.invokestatic 35, 3) := by decide +kernel
theorem dX1_pile_4 : decode cX1_pile 4 = .ok (.iload_n 2, 1) := by decide +kernel
theorem dX1_pile_5 : decode cX1_pile 5 = .ok (.iconst 5, 1) := by decide +kernel
theorem dX1_pile_6 : decode cX1_pile 6 = .ok (.invokestatic 48, 3) := by decide +kernel
theorem dX1_pile_9 : decode cX1_pile 9 = .ok (.aload_n 0, 1) := by decide +kernel
theorem dX1_pile_10 : decode cX1_pile 10 = .ok (.aload_n 0, 1) := by decide +kernel
theorem dX1_pile_11 : decode cX1_pile 11 = .ok (.getfield 9, 3) := by decide +kernel
theorem dX1_pile_14 : decode cX1_pile 14 = .ok (.iload_n 1, 1) := by decide +kernel
theorem dX1_pile_15 : decode cX1_pile 15 = .ok (.laload, 1) := by decide +kernel
theorem dX1_pile_16 : decode cX1_pile 16 = .ok (.iload_n 2, 1) := by decide +kernel
theorem dX1_pile_17 : decode cX1_pile 17 = .ok (.invokevirtual 201, 3) := by decide +kernel
theorem dX1_pile_20 : decode cX1_pile 20 = .ok (.ireturn, 1) := by decide +kernel
def MX1_pile (g : RO) : MT := ((RX1, cX1_pile, 3, 7, 2, 12, false, some .int), [(9, 5, 0)], [], [], [], [], 0, [(35, 0, 1, 0, 6, 1, 6, yX1_needNumber, spOf (MX1_needNumber g)), (48, 0, 2, 0, 6, 1, 6, yX1_needChoice, spOf (MX1_needChoice g)), (201, 2, 3, 5, 4, 0, 0, yX1_pileCount, spOf (MX1_pileCount g))], [], [], 0, g)
section
variable {g : RO} {Q : Ot → Hw → Prop} {st : List Value} {w : Hw} {k n p q : Nat} {a b : Int32} {x y : Int64} {u v : Value} {l0 l1 l2 : Option Value}
theorem eX1_pile_0 : WP (MX1_pile g) Q (0, [l0, some (.int a), l2], st, w, k, n) = WP (MX1_pile g) Q (1, [l0, some (.int a), l2], .int a :: st, w, k, n) := Eq.trans (WP_at (M := (MX1_pile g)) rfl dX1_pile_0 (Or.inr rfl)) rfl
theorem eX1_pile_1 {z0 : Int32} : WP (MX1_pile g) Q (1, [l0, l1, l2], .int z0 :: st, w, k, n) = (wt st ≤ 8 ∧ k + 1 ≤ 2 ∧ n + 6 ≤ 12 ∧ WP (MX1_needNumber g) (kx (fun v w' => WP (MX1_pile g) Q (4, [l0, l1, l2], v.toList ++ st, w', k + 1, n + 6)) (fun E w' => Q (.inr E) w')) (0, [some (.int z0)], [], w, 0, 0)) := csS (As := [.int z0]) (rest := st) (MX1_needNumber g) rfl dX1_pile_1 (Nat.ne_of_beq_eq_false rfl) rfl (by decide) (Nat.le_of_ble_eq_true rfl) (Nat.le_of_ble_eq_true rfl) rfl
theorem eX1_pile_4 : WP (MX1_pile g) Q (4, [l0, l1, some (.int a)], st, w, k, n) = WP (MX1_pile g) Q (5, [l0, l1, some (.int a)], .int a :: st, w, k, n) := Eq.trans (WP_at (M := (MX1_pile g)) rfl dX1_pile_4 (Or.inr rfl)) rfl
theorem eX1_pile_5 : WP (MX1_pile g) Q (5, [l0, l1, l2], st, w, k, n) = WP (MX1_pile g) Q (6, [l0, l1, l2], .int 5 :: st, w, k, n) := iconst_e rfl dX1_pile_5 (by decide)
theorem eX1_pile_6 {z0 : Int32} {z1 : Int32} : WP (MX1_pile g) Q (6, [l0, l1, l2], .int z1 :: .int z0 :: st, w, k, n) = (wt st ≤ 8 ∧ k + 1 ≤ 2 ∧ n + 6 ≤ 12 ∧ WP (MX1_needChoice g) (kx (fun v w' => WP (MX1_pile g) Q (9, [l0, l1, l2], v.toList ++ st, w', k + 1, n + 6)) (fun E w' => Q (.inr E) w')) (0, [some (.int z0), some (.int z1)], [], w, 0, 0)) := csS (As := [.int z0, .int z1]) (rest := st) (MX1_needChoice g) rfl dX1_pile_6 (Nat.ne_of_beq_eq_false rfl) rfl (by decide) (Nat.le_of_ble_eq_true rfl) (Nat.le_of_ble_eq_true rfl) rfl
theorem eX1_pile_9 : WP (MX1_pile g) Q (9, [some (.ref p), l1, l2], st, w, k, n) = WP (MX1_pile g) Q (10, [some (.ref p), l1, l2], .ref p :: st, w, k, n) := Eq.trans (WP_at (M := (MX1_pile g)) rfl dX1_pile_9 (Or.inr rfl)) rfl
theorem eX1_pile_9N : WP (MX1_pile g) Q (9, [some .null, l1, l2], st, w, k, n) = WP (MX1_pile g) Q (10, [some .null, l1, l2], .null :: st, w, k, n) := Eq.trans (WP_at (M := (MX1_pile g)) rfl dX1_pile_9 (Or.inr rfl)) rfl
theorem eX1_pile_10 : WP (MX1_pile g) Q (10, [some (.ref p), l1, l2], st, w, k, n) = WP (MX1_pile g) Q (11, [some (.ref p), l1, l2], .ref p :: st, w, k, n) := Eq.trans (WP_at (M := (MX1_pile g)) rfl dX1_pile_10 (Or.inr rfl)) rfl
theorem eX1_pile_10N : WP (MX1_pile g) Q (10, [some .null, l1, l2], st, w, k, n) = WP (MX1_pile g) Q (11, [some .null, l1, l2], .null :: st, w, k, n) := Eq.trans (WP_at (M := (MX1_pile g)) rfl dX1_pile_10 (Or.inr rfl)) rfl
theorem eX1_pile_11 : WP (MX1_pile g) Q (11, [l0, l1, l2], .ref p :: st, w, k, n) = go (rd g w p) 5 fun fs => ∃ v, fs[0]? = some v ∧ WP (MX1_pile g) Q (14, [l0, l1, l2], v :: st, w, k, n) := get_e rfl dX1_pile_11 rfl
theorem eX1_pile_14 : WP (MX1_pile g) Q (14, [l0, some (.int a), l2], st, w, k, n) = WP (MX1_pile g) Q (15, [l0, some (.int a), l2], .int a :: st, w, k, n) := Eq.trans (WP_at (M := (MX1_pile g)) rfl dX1_pile_14 (Or.inr rfl)) rfl
theorem eX1_pile_15 : WP (MX1_pile g) Q (15, [l0, l1, l2], .int a :: .ref p :: st, w, k, n) = gl (rd g w p) 0 fun N f => vp_in a N ∧ WP (MX1_pile g) Q (16, [l0, l1, l2], .long (f a.toNatClampNeg) :: st, w, k, n) := Eq.trans (WP_at (M := (MX1_pile g)) rfl dX1_pile_15 (Or.inr rfl)) rfl
theorem eX1_pile_16 : WP (MX1_pile g) Q (16, [l0, l1, some (.int a)], st, w, k, n) = WP (MX1_pile g) Q (17, [l0, l1, some (.int a)], .int a :: st, w, k, n) := Eq.trans (WP_at (M := (MX1_pile g)) rfl dX1_pile_16 (Or.inr rfl)) rfl
theorem eX1_pile_17 {z0 : Int64} {z1 : Int32} : WP (MX1_pile g) Q (17, [l0, l1, l2], .int z1 :: .long z0 :: .ref p :: st, w, k, n) = (go (rd g w p) 5 (fun _ => True) ∧ wt st ≤ 8 ∧ k + 0 ≤ 2 ∧ n + 0 ≤ 12 ∧ WP (MX1_pileCount g) (kx (fun v w' => WP (MX1_pile g) Q (20, [l0, l1, l2], v.toList ++ st, w', k + 0, n + 0)) (fun E w' => Q (.inr E) w')) (0, [some (.ref p), some (.long z0), none, some (.int z1), none, none, none], [], w, 0, 0)) := csV (As := [.long z0, .int z1]) (rest := st) (MX1_pileCount g) rfl dX1_pile_17 rfl (by decide) (Nat.le_of_ble_eq_true rfl) (Nat.le_of_ble_eq_true rfl) rfl
theorem eX1_pile_20 : WP (MX1_pile g) Q (20, [l0, l1, l2], [.int a], w, k, n) = (k ≤ 2 ∧ n ≤ 12 ∧ Q (.inl (some (.int a))) w) := (iret_e rfl dX1_pile_20 rfl).trans (and_t rfl)
end
theorem vMX1_pile {l : Launch} (hl : l.stackTraces = false) (G : GT) : vM l G (MX1_pile (gg G)) := ⟨fun i c j h => lookup_all (l := (MX1_pile (gg G)).fld) (P := fun i e => vFld RX1 i e.1 e.2) (all_c (vF_RX1_9) (all_n)) i (c, j) h, fun i c fs h => lookup_all (l := (MX1_pile (gg G)).new) (P := fun i e => vNew RX1 i e.1 e.2) (all_n) i (c, fs) h, lookup_all (l := (MX1_pile (gg G)).anew) (P := fun i e => vANew RX1 i e) (all_n), lookup_all (l := (MX1_pile (gg G)).lng) (P := fun i e => Jvm.Cond.constantLong RX1 i e ∈ WS) (all_n), lookup_all (l := (MX1_pile (gg G)).thr) (P := fun i e => vThr RX1 cX1_pile i e) (all_n), fun h => absurd rfl h, lookup_all (l := (MX1_pile (gg G)).cal) (P := fun i e => vCal l G RX1 i e) (all_c (⟨cX1_needNumber, 1, none, fun y hy => by subst hy; exact ⟨by decide, wk_355, okX1_needNumber hl, wk_59, ⟨(by decide : yX1_needNumber.cls ≠ "java/lang/invoke/MethodHandle"), (by decide : yX1_needNumber.cls ≠ "java/lang/invoke/VarHandle")⟩, ⟨(by decide +kernel : (parseMethodDescriptor yX1_needNumber.desc).map (fun d => d.parameters.length) = some 1), wk_353, wk_354⟩⟩⟩) (all_c (⟨cX1_needChoice, 2, none, fun y hy => by subst hy; exact ⟨by decide, wk_442, okX1_needChoice hl, wk_59, ⟨(by decide : yX1_needChoice.cls ≠ "java/lang/invoke/MethodHandle"), (by decide : yX1_needChoice.cls ≠ "java/lang/invoke/VarHandle")⟩, ⟨(by decide +kernel : (parseMethodDescriptor yX1_needChoice.desc).map (fun d => d.parameters.length) = some 2), wk_440, wk_441⟩⟩⟩) (all_c (⟨cX1_pileCount, 7, some .int, fun y hy => by subst hy; exact ⟨by decide, wk_326, okX1_pileCount hl, wk_59, ⟨(by decide : yX1_pileCount.cls ≠ "java/lang/invoke/MethodHandle"), (by decide : yX1_pileCount.cls ≠ "java/lang/invoke/VarHandle")⟩, ⟨(by decide +kernel : (parseMethodDescriptor yX1_pileCount.desc).map (fun d => d.parameters.length + 1) = some 3), wk_323, wk_325, wk_25, (RX1, TX1, 7), rfl, rfl⟩⟩⟩) (all_n)))), lookup_all (l := (MX1_pile (gg G)).stt) (P := fun i e => vStt G RX1 i e) (all_n), lookup_all (l := (MX1_pile (gg G)).cst) (P := fun i e => vCst RX1 i e) (all_n), fun h => absurd rfl h, rfl⟩
theorem okX1_pile {l : Launch} (hl : l.stackTraces = false) {G : GT} : ∀ (args : List Value) (w : Hw) (S : Ot → Hw → Prop), spOf (MX1_pile (gg G)) args w S → CX l G yX1_pile (.code yX1_pile cX1_pile 3 (some .int)) 7 2 12 args w S := CX_sp (M := MX1_pile (gg G)) (y := yX1_pile) hl (by decide) rfl (vMX1_pile hl G) (fun h => by cases h)
/-! Rangecard.house(I)I -/
theorem dX1_house_0 : decode cX1_house 0 = .ok (.iload_n 1, 1) := by decide +kernel
theorem dX1_house_1 : decode cX1_house 1 = .ok (.iconst 4, 1) := by decide +kernel
theorem dX1_house_2 : decode cX1_house 2 = .ok (.invokestatic 48, 3) := by decide +kernel
theorem dX1_house_5 : decode cX1_house 5 = .ok (.aload_n 0, 1) := by decide +kernel
theorem dX1_house_6 : decode cX1_house 6 = .ok (.iload_n 1, 1) := by decide +kernel
theorem dX1_house_7 : decode cX1_house 7 = .ok (.invokevirtual 205, 3) := by decide +kernel
theorem dX1_house_10 : decode cX1_house 10 = .ok (.ireturn, 1) := by decide +kernel
def MX1_house (g : RO) : MT := ((RX1, cX1_house, 2, 7, 1, 6, false, some .int), [], [], [], [], [], 0, [(48, 0, 2, 0, 6, 1, 6, yX1_needChoice, spOf (MX1_needChoice g)), (205, 2, 2, 5, 3, 0, 0, yX1_houseCount, spOf (MX1_houseCount g))], [], [], 0, g)
section
variable {g : RO} {Q : Ot → Hw → Prop} {st : List Value} {w : Hw} {k n p q : Nat} {a b : Int32} {x y : Int64} {u v : Value} {l0 l1 : Option Value}
theorem eX1_house_0 : WP (MX1_house g) Q (0, [l0, some (.int a)], st, w, k, n) = WP (MX1_house g) Q (1, [l0, some (.int a)], .int a :: st, w, k, n) := Eq.trans (WP_at (M := (MX1_house g)) rfl dX1_house_0 (Or.inr rfl)) rfl
theorem eX1_house_1 : WP (MX1_house g) Q (1, [l0, l1], st, w, k, n) = WP (MX1_house g) Q (2, [l0, l1], .int 4 :: st, w, k, n) := iconst_e rfl dX1_house_1 (by decide)
theorem eX1_house_2 {z0 : Int32} {z1 : Int32} : WP (MX1_house g) Q (2, [l0, l1], .int z1 :: .int z0 :: st, w, k, n) = (wt st ≤ 8 ∧ k + 1 ≤ 1 ∧ n + 6 ≤ 6 ∧ WP (MX1_needChoice g) (kx (fun v w' => WP (MX1_house g) Q (5, [l0, l1], v.toList ++ st, w', k + 1, n + 6)) (fun E w' => Q (.inr E) w')) (0, [some (.int z0), some (.int z1)], [], w, 0, 0)) := csS (As := [.int z0, .int z1]) (rest := st) (MX1_needChoice g) rfl dX1_house_2 (Nat.ne_of_beq_eq_false rfl) rfl (by decide) (Nat.le_of_ble_eq_true rfl) (Nat.le_of_ble_eq_true rfl) rfl
theorem eX1_house_5 : WP (MX1_house g) Q (5, [some (.ref p), l1], st, w, k, n) = WP (MX1_house g) Q (6, [some (.ref p), l1], .ref p :: st, w, k, n) := Eq.trans (WP_at (M := (MX1_house g)) rfl dX1_house_5 (Or.inr rfl)) rfl
theorem eX1_house_5N : WP (MX1_house g) Q (5, [some .null, l1], st, w, k, n) = WP (MX1_house g) Q (6, [some .null, l1], .null :: st, w, k, n) := Eq.trans (WP_at (M := (MX1_house g)) rfl dX1_house_5 (Or.inr rfl)) rfl
theorem eX1_house_6 : WP (MX1_house g) Q (6, [l0, some (.int a)], st, w, k, n) = WP (MX1_house g) Q (7, [l0, some (.int a)], .int a :: st, w, k, n) := Eq.trans (WP_at (M := (MX1_house g)) rfl dX1_house_6 (Or.inr rfl)) rfl
theorem eX1_house_7 {z0 : Int32} : WP (MX1_house g) Q (7, [l0, l1], .int z0 :: .ref p :: st, w, k, n) = (go (rd g w p) 5 (fun _ => True) ∧ wt st ≤ 8 ∧ k + 0 ≤ 1 ∧ n + 0 ≤ 6 ∧ WP (MX1_houseCount g) (kx (fun v w' => WP (MX1_house g) Q (10, [l0, l1], v.toList ++ st, w', k + 0, n + 0)) (fun E w' => Q (.inr E) w')) (0, [some (.ref p), some (.int z0)], [], w, 0, 0)) := csV (As := [.int z0]) (rest := st) (MX1_houseCount g) rfl dX1_house_7 rfl (by decide) (Nat.le_of_ble_eq_true rfl) (Nat.le_of_ble_eq_true rfl) rfl
theorem eX1_house_10 : WP (MX1_house g) Q (10, [l0, l1], [.int a], w, k, n) = (k ≤ 1 ∧ n ≤ 6 ∧ Q (.inl (some (.int a))) w) := (iret_e rfl dX1_house_10 rfl).trans (and_t rfl)
end
theorem vMX1_house {l : Launch} (hl : l.stackTraces = false) (G : GT) : vM l G (MX1_house (gg G)) := ⟨fun i c j h => lookup_all (l := (MX1_house (gg G)).fld) (P := fun i e => vFld RX1 i e.1 e.2) (all_n) i (c, j) h, fun i c fs h => lookup_all (l := (MX1_house (gg G)).new) (P := fun i e => vNew RX1 i e.1 e.2) (all_n) i (c, fs) h, lookup_all (l := (MX1_house (gg G)).anew) (P := fun i e => vANew RX1 i e) (all_n), lookup_all (l := (MX1_house (gg G)).lng) (P := fun i e => Jvm.Cond.constantLong RX1 i e ∈ WS) (all_n), lookup_all (l := (MX1_house (gg G)).thr) (P := fun i e => vThr RX1 cX1_house i e) (all_n), fun h => absurd rfl h, lookup_all (l := (MX1_house (gg G)).cal) (P := fun i e => vCal l G RX1 i e) (all_c (⟨cX1_needChoice, 2, none, fun y hy => by subst hy; exact ⟨by decide, wk_442, okX1_needChoice hl, wk_59, ⟨(by decide : yX1_needChoice.cls ≠ "java/lang/invoke/MethodHandle"), (by decide : yX1_needChoice.cls ≠ "java/lang/invoke/VarHandle")⟩, ⟨(by decide +kernel : (parseMethodDescriptor yX1_needChoice.desc).map (fun d => d.parameters.length) = some 2), wk_440, wk_441⟩⟩⟩) (all_c (⟨cX1_houseCount, 2, some .int, fun y hy => by subst hy; exact ⟨by decide, wk_256, okX1_houseCount hl, wk_59, ⟨(by decide : yX1_houseCount.cls ≠ "java/lang/invoke/MethodHandle"), (by decide : yX1_houseCount.cls ≠ "java/lang/invoke/VarHandle")⟩, ⟨(by decide +kernel : (parseMethodDescriptor yX1_houseCount.desc).map (fun d => d.parameters.length + 1) = some 2), wk_253, wk_255, wk_14, (RX1, TX1, 7), rfl, rfl⟩⟩⟩) (all_n))), lookup_all (l := (MX1_house (gg G)).stt) (P := fun i e => vStt G RX1 i e) (all_n), lookup_all (l := (MX1_house (gg G)).cst) (P := fun i e => vCst RX1 i e) (all_n), fun h => absurd rfl h, rfl⟩
theorem okX1_house {l : Launch} (hl : l.stackTraces = false) {G : GT} : ∀ (args : List Value) (w : Hw) (S : Ot → Hw → Prop), spOf (MX1_house (gg G)) args w S → CX l G yX1_house (.code yX1_house cX1_house 2 (some .int)) 7 1 6 args w S := CX_sp (M := MX1_house (gg G)) (y := yX1_house) hl (by decide) rfl (vMX1_house hl G) (fun h => by cases h)
