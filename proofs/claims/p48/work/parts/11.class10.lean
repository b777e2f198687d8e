/-! Rangecard.copy(II)I -/
theorem dX1_copy_0 : decode cX1_copy 0 = .ok (.iload_n 1, 1) := by decide +kernel
theorem dX1_copy_1 : decode cX1_copy 1 = .ok (.invokestatic 35, 3) := by decide +kernel
theorem dX1_copy_4 : decode cX1_copy 4 = .ok (.iload_n 2, 1) := by decide +kernel
theorem dX1_copy_5 : decode cX1_copy 5 = .ok (.invokestatic 35, 3) := by decide +kernel
theorem dX1_copy_8 : decode cX1_copy 8 = .ok (.aload_n 0, 1) := by decide +kernel
theorem dX1_copy_9 : decode cX1_copy 9 = .ok (.iload_n 1, 1) := by decide +kernel
theorem dX1_copy_10 : decode cX1_copy 10 = .ok (.aload_n 0, 1) := by decide +kernel
theorem dX1_copy_11 : decode cX1_copy 11 = .ok (.getfield 9, 3) := by decide +kernel
theorem dX1_copy_14 : decode cX1_copy 14 = .ok (.iload_n 2, 1) := by decide +kernel
theorem dX1_copy_15 : decode cX1_copy 15 = .ok (.laload, 1) := by decide +kernel
theorem dX1_copy_16 : decode cX1_copy 16 = .ok (.invokevirtual 56, 3) := by decide +kernel
theorem dX1_copy_19 : decode cX1_copy 19 = .ok (.ireturn, 1) := by decide +kernel
def MX1_copy : MT := ((RX1, cX1_copy, 3, 7, 2, 12, false, some .int), [(9, 5, 0)], [], [], [], [], 0, [(35, 0, 1, 0, 6, 1, 6, yX1_needNumber, spOf MX1_needNumber), (56, 2, 3, 5, 2, 0, 0, yX1_putNumber, spOf MX1_putNumber)])
section
variable {Q : Ot → Hw → Prop} {st : List Value} {w : Hw} {k n p q : Nat} {a b : Int32} {x y : Int64} {u v : Value} {l0 l1 l2 : Option Value}
theorem eX1_copy_0 : WP MX1_copy Q (0, [l0, some (.int a), l2], st, w, k, n) = WP MX1_copy Q (1, [l0, some (.int a), l2], .int a :: st, w, k, n) := Eq.trans (WP_at (M := MX1_copy) rfl dX1_copy_0 (Or.inr rfl)) rfl
theorem eX1_copy_1 {z0 : Int32} : WP MX1_copy Q (1, [l0, l1, l2], .int z0 :: st, w, k, n) = (wt st ≤ 8 ∧ k + 1 ≤ 2 ∧ n + 6 ≤ 12 ∧ WP MX1_needNumber (kx (fun v w' => WP MX1_copy Q (4, [l0, l1, l2], v.toList ++ st, w', k + 1, n + 6)) (fun E w' => Q (.inr E) w')) (0, [some (.int z0)], [], w, 0, 0)) := csS (As := [.int z0]) (rest := st) MX1_needNumber rfl dX1_copy_1 rfl (by decide) (by decide) (Nat.le_of_ble_eq_true rfl) rfl
theorem eX1_copy_4 : WP MX1_copy Q (4, [l0, l1, some (.int a)], st, w, k, n) = WP MX1_copy Q (5, [l0, l1, some (.int a)], .int a :: st, w, k, n) := Eq.trans (WP_at (M := MX1_copy) rfl dX1_copy_4 (Or.inr rfl)) rfl
theorem eX1_copy_5 {z0 : Int32} : WP MX1_copy Q (5, [l0, l1, l2], .int z0 :: st, w, k, n) = (wt st ≤ 8 ∧ k + 1 ≤ 2 ∧ n + 6 ≤ 12 ∧ WP MX1_needNumber (kx (fun v w' => WP MX1_copy Q (8, [l0, l1, l2], v.toList ++ st, w', k + 1, n + 6)) (fun E w' => Q (.inr E) w')) (0, [some (.int z0)], [], w, 0, 0)) := csS (As := [.int z0]) (rest := st) MX1_needNumber rfl dX1_copy_5 rfl (by decide) (by decide) (Nat.le_of_ble_eq_true rfl) rfl
theorem eX1_copy_8 : WP MX1_copy Q (8, [some (.ref p), l1, l2], st, w, k, n) = WP MX1_copy Q (9, [some (.ref p), l1, l2], .ref p :: st, w, k, n) := Eq.trans (WP_at (M := MX1_copy) rfl dX1_copy_8 (Or.inr rfl)) rfl
theorem eX1_copy_8N : WP MX1_copy Q (8, [some .null, l1, l2], st, w, k, n) = WP MX1_copy Q (9, [some .null, l1, l2], .null :: st, w, k, n) := Eq.trans (WP_at (M := MX1_copy) rfl dX1_copy_8 (Or.inr rfl)) rfl
theorem eX1_copy_9 : WP MX1_copy Q (9, [l0, some (.int a), l2], st, w, k, n) = WP MX1_copy Q (10, [l0, some (.int a), l2], .int a :: st, w, k, n) := Eq.trans (WP_at (M := MX1_copy) rfl dX1_copy_9 (Or.inr rfl)) rfl
theorem eX1_copy_10 : WP MX1_copy Q (10, [some (.ref p), l1, l2], st, w, k, n) = WP MX1_copy Q (11, [some (.ref p), l1, l2], .ref p :: st, w, k, n) := Eq.trans (WP_at (M := MX1_copy) rfl dX1_copy_10 (Or.inr rfl)) rfl
theorem eX1_copy_10N : WP MX1_copy Q (10, [some .null, l1, l2], st, w, k, n) = WP MX1_copy Q (11, [some .null, l1, l2], .null :: st, w, k, n) := Eq.trans (WP_at (M := MX1_copy) rfl dX1_copy_10 (Or.inr rfl)) rfl
theorem eX1_copy_11 : WP MX1_copy Q (11, [l0, l1, l2], .ref p :: st, w, k, n) = go w p 5 fun fs => ∃ v, fs[0]? = some v ∧ WP MX1_copy Q (14, [l0, l1, l2], v :: st, w, k, n) := get_e rfl dX1_copy_11 rfl
theorem eX1_copy_14 : WP MX1_copy Q (14, [l0, l1, some (.int a)], st, w, k, n) = WP MX1_copy Q (15, [l0, l1, some (.int a)], .int a :: st, w, k, n) := Eq.trans (WP_at (M := MX1_copy) rfl dX1_copy_14 (Or.inr rfl)) rfl
theorem eX1_copy_15 : WP MX1_copy Q (15, [l0, l1, l2], .int a :: .ref p :: st, w, k, n) = gl w p 0 fun N f => vp_in a N ∧ WP MX1_copy Q (16, [l0, l1, l2], .long (f a.toNatClampNeg) :: st, w, k, n) := Eq.trans (WP_at (M := MX1_copy) rfl dX1_copy_15 (Or.inr rfl)) rfl
theorem eX1_copy_16 {z0 : Int32} {z1 : Int64} : WP MX1_copy Q (16, [l0, l1, l2], .long z1 :: .int z0 :: .ref p :: st, w, k, n) = (go w p 5 (fun _ => True) ∧ wt st ≤ 8 ∧ k + 0 ≤ 2 ∧ n + 0 ≤ 12 ∧ WP MX1_putNumber (kx (fun v w' => WP MX1_copy Q (19, [l0, l1, l2], v.toList ++ st, w', k + 0, n + 0)) (fun E w' => Q (.inr E) w')) (0, [some (.ref p), some (.int z0), some (.long z1), none], [], w, 0, 0)) := csV (As := [.int z0, .long z1]) (rest := st) MX1_putNumber rfl dX1_copy_16 rfl (by decide) (by decide) (Nat.le_of_ble_eq_true rfl) rfl
theorem eX1_copy_19 : WP MX1_copy Q (19, [l0, l1, l2], [.int a], w, k, n) = (k ≤ 2 ∧ n ≤ 12 ∧ Q (.inl (some (.int a))) w) := (iret_e rfl dX1_copy_19 rfl).trans (and_t rfl)
end
theorem vMX1_copy {l : Launch} (hl : l.stackTraces = false) (G : GT) : vM l G MX1_copy := ⟨fun i c j h => lookup_all (l := MX1_copy.fld) (P := fun i e => vFld RX1 i e.1 e.2) (all_c (vF_RX1_9) (all_n)) i (c, j) h, fun i c fs h => lookup_all (l := MX1_copy.new) (P := fun i e => vNew RX1 i e.1 e.2) (all_n) i (c, fs) h, lookup_all (l := MX1_copy.anew) (P := fun i e => vANew RX1 i e) (all_n), lookup_all (l := MX1_copy.lng) (P := fun i e => Jvm.Cond.constantLong RX1 i e ∈ WS) (all_n), lookup_all (l := MX1_copy.thr) (P := fun i e => vThr RX1 cX1_copy i e) (all_n), fun h => absurd rfl h, lookup_all (l := MX1_copy.cal) (P := fun i e => vCal l G RX1 i e) (all_c (⟨cX1_needNumber, 1, none, fun y hy => by subst hy; exact ⟨by decide, wk_355, okX1_needNumber hl, wk_59, ⟨by decide, by decide⟩, ⟨by decide +kernel, wk_353, wk_354⟩⟩⟩) (all_c (⟨cX1_putNumber, 4, some .int, fun y hy => by subst hy; exact ⟨by decide, wk_467, okX1_putNumber hl, wk_59, ⟨by decide, by decide⟩, ⟨by decide +kernel, wk_464, wk_466, wk_28, (RX1, TX1, 7), rfl, rfl⟩⟩⟩) (all_n)))⟩
theorem okX1_copy {l : Launch} (hl : l.stackTraces = false) {G : GT} : ∀ (args : List Value) (w : Hw) (S : Ot → Hw → Prop), spOf MX1_copy args w S → CX l G yX1_copy (.code yX1_copy cX1_copy 3 (some .int)) 7 2 12 args w S := CX_sp (M := MX1_copy) (y := yX1_copy) hl (by decide) rfl (vMX1_copy hl G) (fun h => by cases h)
/-! Rangecard.ofNumber(IZ)I -/
theorem dX1_ofNumber_0 : decode cX1_ofNumber 0 = .ok (.iload_n 1, 1) := by decide +kernel
theorem dX1_ofNumber_1 : decode cX1_ofNumber 1 = .ok (.invokestatic 35, 3) := by decide +kernel
theorem dX1_ofNumber_4 : decode cX1_ofNumber 4 = .ok (.aload_n 0, 1) := by decide +kernel
theorem dX1_ofNumber_5 : decode cX1_ofNumber 5 = .ok (.getfield 9, 3) := by decide +kernel
theorem dX1_ofNumber_8 : decode cX1_ofNumber 8 = .ok (.iload_n 1, 1) := by decide +kernel
theorem dX1_ofNumber_9 : decode cX1_ofNumber 9 = .ok (.laload, 1) := by decide +kernel
theorem dX1_ofNumber_10 : decode cX1_ofNumber 10 = .ok (.iload_n 2, 1) := by decide +kernel
theorem dX1_ofNumber_11 : decode cX1_ofNumber 11 = .ok (.invokestatic 60, 3) := by decide +kernel
theorem dX1_ofNumber_14 : decode cX1_ofNumber 14 = .ok (.ireturn, 1) := by decide +kernel
def MX1_ofNumber : MT := ((RX1, cX1_ofNumber, 3, 7, 1, 6, false, some .int), [(9, 5, 0)], [], [], [], [], 0, [(35, 0, 1, 0, 6, 1, 6, yX1_needNumber, spOf MX1_needNumber), (60, 0, 2, 0, 2, 0, 0, yX1_halfOf, spOf MX1_halfOf)])
section
variable {Q : Ot → Hw → Prop} {st : List Value} {w : Hw} {k n p q : Nat} {a b : Int32} {x y : Int64} {u v : Value} {l0 l1 l2 : Option Value}
theorem eX1_ofNumber_0 : WP MX1_ofNumber Q (0, [l0, some (.int a), l2], st, w, k, n) = WP MX1_ofNumber Q (1, [l0, some (.int a), l2], .int a :: st, w, k, n) := Eq.trans (WP_at (M := MX1_ofNumber) rfl dX1_ofNumber_0 (Or.inr rfl)) rfl
theorem eX1_ofNumber_1 {z0 : Int32} : WP MX1_ofNumber Q (1, [l0, l1, l2], .int z0 :: st, w, k, n) = (wt st ≤ 8 ∧ k + 1 ≤ 1 ∧ n + 6 ≤ 6 ∧ WP MX1_needNumber (kx (fun v w' => WP MX1_ofNumber Q (4, [l0, l1, l2], v.toList ++ st, w', k + 1, n + 6)) (fun E w' => Q (.inr E) w')) (0, [some (.int z0)], [], w, 0, 0)) := csS (As := [.int z0]) (rest := st) MX1_needNumber rfl dX1_ofNumber_1 rfl (by decide) (by decide) (Nat.le_of_ble_eq_true rfl) rfl
theorem eX1_ofNumber_4 : WP MX1_ofNumber Q (4, [some (.ref p), l1, l2], st, w, k, n) = WP MX1_ofNumber Q (5, [some (.ref p), l1, l2], .ref p :: st, w, k, n) := Eq.trans (WP_at (M := MX1_ofNumber) rfl dX1_ofNumber_4 (Or.inr rfl)) rfl
theorem eX1_ofNumber_4N : WP MX1_ofNumber Q (4, [some .null, l1, l2], st, w, k, n) = WP MX1_ofNumber Q (5, [some .null, l1, l2], .null :: st, w, k, n) := Eq.trans (WP_at (M := MX1_ofNumber) rfl dX1_ofNumber_4 (Or.inr rfl)) rfl
theorem eX1_ofNumber_5 : WP MX1_ofNumber Q (5, [l0, l1, l2], .ref p :: st, w, k, n) = go w p 5 fun fs => ∃ v, fs[0]? = some v ∧ WP MX1_ofNumber Q (8, [l0, l1, l2], v :: st, w, k, n) := get_e rfl dX1_ofNumber_5 rfl
theorem eX1_ofNumber_8 : WP MX1_ofNumber Q (8, [l0, some (.int a), l2], st, w, k, n) = WP MX1_ofNumber Q (9, [l0, some (.int a), l2], .int a :: st, w, k, n) := Eq.trans (WP_at (M := MX1_ofNumber) rfl dX1_ofNumber_8 (Or.inr rfl)) rfl
theorem eX1_ofNumber_9 : WP MX1_ofNumber Q (9, [l0, l1, l2], .int a :: .ref p :: st, w, k, n) = gl w p 0 fun N f => vp_in a N ∧ WP MX1_ofNumber Q (10, [l0, l1, l2], .long (f a.toNatClampNeg) :: st, w, k, n) := Eq.trans (WP_at (M := MX1_ofNumber) rfl dX1_ofNumber_9 (Or.inr rfl)) rfl
theorem eX1_ofNumber_10 : WP MX1_ofNumber Q (10, [l0, l1, some (.int a)], st, w, k, n) = WP MX1_ofNumber Q (11, [l0, l1, some (.int a)], .int a :: st, w, k, n) := Eq.trans (WP_at (M := MX1_ofNumber) rfl dX1_ofNumber_10 (Or.inr rfl)) rfl
theorem eX1_ofNumber_11 {z0 : Int64} {z1 : Int32} : WP MX1_ofNumber Q (11, [l0, l1, l2], .int z1 :: .long z0 :: st, w, k, n) = (wt st ≤ 8 ∧ k + 0 ≤ 1 ∧ n + 0 ≤ 6 ∧ WP MX1_halfOf (kx (fun v w' => WP MX1_ofNumber Q (14, [l0, l1, l2], v.toList ++ st, w', k + 0, n + 0)) (fun E w' => Q (.inr E) w')) (0, [some (.long z0), none, some (.int z1)], [], w, 0, 0)) := csS (As := [.long z0, .int z1]) (rest := st) MX1_halfOf rfl dX1_ofNumber_11 rfl (by decide) (by decide) (Nat.le_of_ble_eq_true rfl) rfl
theorem eX1_ofNumber_14 : WP MX1_ofNumber Q (14, [l0, l1, l2], [.int a], w, k, n) = (k ≤ 1 ∧ n ≤ 6 ∧ Q (.inl (some (.int a))) w) := (iret_e rfl dX1_ofNumber_14 rfl).trans (and_t rfl)
end
theorem wk_491 : (.code yX1_halfOf cX1_halfOf 3 (some .int) : Jvm.Cond) ∈ WS := WS_at 491 (by decide +kernel) rfl
theorem wk_489 : (.methodLink RX1 60 yX1_halfOf : Jvm.Cond) ∈ WS := WS_at 489 (by decide +kernel) rfl
theorem wk_490 : (.static yX1_halfOf : Jvm.Cond) ∈ WS := WS_at 490 (by decide +kernel) rfl
theorem vMX1_ofNumber {l : Launch} (hl : l.stackTraces = false) (G : GT) : vM l G MX1_ofNumber := ⟨fun i c j h => lookup_all (l := MX1_ofNumber.fld) (P := fun i e => vFld RX1 i e.1 e.2) (all_c (vF_RX1_9) (all_n)) i (c, j) h, fun i c fs h => lookup_all (l := MX1_ofNumber.new) (P := fun i e => vNew RX1 i e.1 e.2) (all_n) i (c, fs) h, lookup_all (l := MX1_ofNumber.anew) (P := fun i e => vANew RX1 i e) (all_n), lookup_all (l := MX1_ofNumber.lng) (P := fun i e => Jvm.Cond.constantLong RX1 i e ∈ WS) (all_n), lookup_all (l := MX1_ofNumber.thr) (P := fun i e => vThr RX1 cX1_ofNumber i e) (all_n), fun h => absurd rfl h, lookup_all (l := MX1_ofNumber.cal) (P := fun i e => vCal l G RX1 i e) (all_c (⟨cX1_needNumber, 1, none, fun y hy => by subst hy; exact ⟨by decide, wk_355, okX1_needNumber hl, wk_59, ⟨by decide, by decide⟩, ⟨by decide +kernel, wk_353, wk_354⟩⟩⟩) (all_c (⟨cX1_halfOf, 3, some .int, fun y hy => by subst hy; exact ⟨by decide, wk_491, okX1_halfOf hl, wk_59, ⟨by decide, by decide⟩, ⟨by decide +kernel, wk_489, wk_490⟩⟩⟩) (all_n)))⟩
theorem okX1_ofNumber {l : Launch} (hl : l.stackTraces = false) {G : GT} : ∀ (args : List Value) (w : Hw) (S : Ot → Hw → Prop), spOf MX1_ofNumber args w S → CX l G yX1_ofNumber (.code yX1_ofNumber cX1_ofNumber 3 (some .int)) 7 1 6 args w S := CX_sp (M := MX1_ofNumber) (y := yX1_ofNumber) hl (by decide) rfl (vMX1_ofNumber hl G) (fun h => by cases h)
/-! Rangecard.order(II)I -/
theorem dX1_order_0 : decode cX1_order 0 = .ok (.iload_n 1, 1) := by decide +kernel
theorem dX1_order_1 : decode cX1_order 1 = .ok (.invokestatic 35, 3) := by decide +kernel
theorem dX1_order_4 : decode cX1_order 4 = .ok (.iload_n 2, 1) := by decide +kernel
theorem dX1_order_5 : decode cX1_order 5 = .ok (.invokestatic 35, 3) := by decide +kernel
theorem dX1_order_8 : decode cX1_order 8 = .ok (.aload_n 0, 1) := by decide +kernel
theorem dX1_order_9 : decode cX1_order 9 = .ok (.getfield 9, 3) := by decide +kernel
theorem dX1_order_12 : decode cX1_order 12 = .ok (.iload_n 1, 1) := by decide +kernel
theorem dX1_order_13 : decode cX1_order 13 = .ok (.laload, 1) := by decide +kernel
theorem dX1_order_14 : decode cX1_order 14 = .ok (.aload_n 0, 1) := by decide +kernel
theorem dX1_order_15 : decode cX1_order 15 = .ok (.getfield 9, 3) := by decide +kernel
theorem dX1_order_18 : decode cX1_order 18 = .ok (.iload_n 2, 1) := by decide +kernel
theorem dX1_order_19 : decode cX1_order 19 = .ok (.laload, 1) := by decide +kernel
theorem dX1_order_20 : decode cX1_order 20 = .ok (.lcmp, 1) := by decide +kernel
theorem dX1_order_21 : decode cX1_order 21 = .ok (.ifCond .ge 5, 3) := by decide +kernel
theorem dX1_order_24 : decode cX1_order 24 = .ok (.iconst (-1), 1) := by decide +kernel
theorem dX1_order_25 : decode cX1_order 25 = .ok (.ireturn, 1) := by decide +kernel
theorem dX1_order_26 : decode cX1_order 26 = .ok (.aload_n 0, 1) := by decide +kernel
theorem dX1_order_27 : decode cX1_order 27 = .ok (.getfield 9, 3) := by decide +kernel
theorem dX1_order_30 : decode cX1_order 30 = .ok (.iload_n 1, 1) := by decide +kernel
theorem dX1_order_31 : decode cX1_order 31 = .ok (.laload, 1) := by decide +kernel
theorem dX1_order_32 : decode cX1_order 32 = .ok (.aload_n 0, 1) := by decide +kernel
theorem dX1_order_33 : decode cX1_order 33 = .ok (.getfield 9, 3) := by decide +kernel
theorem dX1_order_36 : decode cX1_order 36 = .ok (.iload_n 2, 1) := by decide +kernel
theorem dX1_order_37 : decode cX1_order 37 = .ok (.laload, 1) := by decide +kernel
theorem dX1_order_38 : decode cX1_order 38 = .ok (.lcmp, 1) := by decide +kernel
theorem dX1_order_39 : decode cX1_order 39 = .ok (.ifCond .le 7, 3) := by decide +kernel
theorem dX1_order_42 : decode cX1_order 42 = .ok (.iconst 1, 1) := by decide +kernel
theorem dX1_order_43 : decode cX1_order 43 = .ok (.goto 4, 3) := by decide +kernel
theorem dX1_order_46 : decode cX1_order 46 = .ok (.iconst 0, 1) := by decide +kernel
theorem dX1_order_47 : decode cX1_order 47 = .ok (.ireturn, 1) := by decide +kernel
def MX1_order : MT := ((RX1, cX1_order, 3, 7, 2, 12, false, some .int), [(9, 5, 0)], [], [], [], [], 0, [(35, 0, 1, 0, 6, 1, 6, yX1_needNumber, spOf MX1_needNumber)])
section
variable {Q : Ot → Hw → Prop} {st : List Value} {w : Hw} {k n p q : Nat} {a b : Int32} {x y : Int64} {u v : Value} {l0 l1 l2 : Option Value}
theorem eX1_order_0 : WP MX1_order Q (0, [l0, some (.int a), l2], st, w, k, n) = WP MX1_order Q (1, [l0, some (.int a), l2], .int a :: st, w, k, n) := Eq.trans (WP_at (M := MX1_order) rfl dX1_order_0 (Or.inr rfl)) rfl
theorem eX1_order_1 {z0 : Int32} : WP MX1_order Q (1, [l0, l1, l2], .int z0 :: st, w, k, n) = (wt st ≤ 8 ∧ k + 1 ≤ 2 ∧ n + 6 ≤ 12 ∧ WP MX1_needNumber (kx (fun v w' => WP MX1_order Q (4, [l0, l1, l2], v.toList ++ st, w', k + 1, n + 6)) (fun E w' => Q (.inr E) w')) (0, [some (.int z0)], [], w, 0, 0)) := csS (As := [.int z0]) (rest := st) MX1_needNumber rfl dX1_order_1 rfl (by decide) (by decide) (Nat.le_of_ble_eq_true rfl) rfl
theorem eX1_order_4 : WP MX1_order Q (4, [l0, l1, some (.int a)], st, w, k, n) = WP MX1_order Q (5, [l0, l1, some (.int a)], .int a :: st, w, k, n) := Eq.trans (WP_at (M := MX1_order) rfl dX1_order_4 (Or.inr rfl)) rfl
theorem eX1_order_5 {z0 : Int32} : WP MX1_order Q (5, [l0, l1, l2], .int z0 :: st, w, k, n) = (wt st ≤ 8 ∧ k + 1 ≤ 2 ∧ n + 6 ≤ 12 ∧ WP MX1_needNumber (kx (fun v w' => WP MX1_order Q (8, [l0, l1, l2], v.toList ++ st, w', k + 1, n + 6)) (fun E w' => Q (.inr E) w')) (0, [some (.int z0)], [], w, 0, 0)) := csS (As := [.int z0]) (rest := st) MX1_needNumber rfl dX1_order_5 rfl (by decide) (by decide) (Nat.le_of_ble_eq_true rfl) rfl
theorem eX1_order_8 : WP MX1_order Q (8, [some (.ref p), l1, l2], st, w, k, n) = WP MX1_order Q (9, [some (.ref p), l1, l2], .ref p :: st, w, k, n) := Eq.trans (WP_at (M := MX1_order) rfl dX1_order_8 (Or.inr rfl)) rfl
theorem eX1_order_8N : WP MX1_order Q (8, [some .null, l1, l2], st, w, k, n) = WP MX1_order Q (9, [some .null, l1, l2], .null :: st, w, k, n) := Eq.trans (WP_at (M := MX1_order) rfl dX1_order_8 (Or.inr rfl)) rfl
theorem eX1_order_9 : WP MX1_order Q (9, [l0, l1, l2], .ref p :: st, w, k, n) = go w p 5 fun fs => ∃ v, fs[0]? = some v ∧ WP MX1_order Q (12, [l0, l1, l2], v :: st, w, k, n) := get_e rfl dX1_order_9 rfl
theorem eX1_order_12 : WP MX1_order Q (12, [l0, some (.int a), l2], st, w, k, n) = WP MX1_order Q (13, [l0, some (.int a), l2], .int a :: st, w, k, n) := Eq.trans (WP_at (M := MX1_order) rfl dX1_order_12 (Or.inr rfl)) rfl
theorem eX1_order_13 : WP MX1_order Q (13, [l0, l1, l2], .int a :: .ref p :: st, w, k, n) = gl w p 0 fun N f => vp_in a N ∧ WP MX1_order Q (14, [l0, l1, l2], .long (f a.toNatClampNeg) :: st, w, k, n) := Eq.trans (WP_at (M := MX1_order) rfl dX1_order_13 (Or.inr rfl)) rfl
theorem eX1_order_14 : WP MX1_order Q (14, [some (.ref p), l1, l2], st, w, k, n) = WP MX1_order Q (15, [some (.ref p), l1, l2], .ref p :: st, w, k, n) := Eq.trans (WP_at (M := MX1_order) rfl dX1_order_14 (Or.inr rfl)) rfl
theorem eX1_order_14N : WP MX1_order Q (14, [some .null, l1, l2], st, w, k, n) = WP MX1_order Q (15, [some .null, l1, l2], .null :: st, w, k, n) := Eq.trans (WP_at (M := MX1_order) rfl dX1_order_14 (Or.inr rfl)) rfl
theorem eX1_order_15 : WP MX1_order Q (15, [l0, l1, l2], .ref p :: st, w, k, n) = go w p 5 fun fs => ∃ v, fs[0]? = some v ∧ WP MX1_order Q (18, [l0, l1, l2], v :: st, w, k, n) := get_e rfl dX1_order_15 rfl
theorem eX1_order_18 : WP MX1_order Q (18, [l0, l1, some (.int a)], st, w, k, n) = WP MX1_order Q (19, [l0, l1, some (.int a)], .int a :: st, w, k, n) := Eq.trans (WP_at (M := MX1_order) rfl dX1_order_18 (Or.inr rfl)) rfl
theorem eX1_order_19 : WP MX1_order Q (19, [l0, l1, l2], .int a :: .ref p :: st, w, k, n) = gl w p 0 fun N f => vp_in a N ∧ WP MX1_order Q (20, [l0, l1, l2], .long (f a.toNatClampNeg) :: st, w, k, n) := Eq.trans (WP_at (M := MX1_order) rfl dX1_order_19 (Or.inr rfl)) rfl
theorem eX1_order_20 : WP MX1_order Q (20, [l0, l1, l2], .long y :: .long x :: st, w, k, n) = WP MX1_order Q (21, [l0, l1, l2], .int (lg_cmp x y) :: st, w, k, n) := Eq.trans (WP_at (M := MX1_order) rfl dX1_order_20 (Or.inr rfl)) rfl
theorem eX1_order_21 : WP MX1_order Q (21, [l0, l1, l2], .int a :: st, w, k, n) = if 0 ≤ a then WP MX1_order Q (26, [l0, l1, l2], st, w, k, n) else WP MX1_order Q (24, [l0, l1, l2], st, w, k, n) := ifc_e (0 ≤ a) rfl dX1_order_21 rfl (by decide)
theorem eX1_order_24 : WP MX1_order Q (24, [l0, l1, l2], st, w, k, n) = WP MX1_order Q (25, [l0, l1, l2], .int (-1) :: st, w, k, n) := iconst_e rfl dX1_order_24 (by decide)
theorem eX1_order_25 : WP MX1_order Q (25, [l0, l1, l2], [.int a], w, k, n) = (k ≤ 2 ∧ n ≤ 12 ∧ Q (.inl (some (.int a))) w) := (iret_e rfl dX1_order_25 rfl).trans (and_t rfl)
theorem eX1_order_26 : WP MX1_order Q (26, [some (.ref p), l1, l2], st, w, k, n) = WP MX1_order Q (27, [some (.ref p), l1, l2], .ref p :: st, w, k, n) := Eq.trans (WP_at (M := MX1_order) rfl dX1_order_26 (Or.inr rfl)) rfl
theorem eX1_order_26N : WP MX1_order Q (26, [some .null, l1, l2], st, w, k, n) = WP MX1_order Q (27, [some .null, l1, l2], .null :: st, w, k, n) := Eq.trans (WP_at (M := MX1_order) rfl dX1_order_26 (Or.inr rfl)) rfl
theorem eX1_order_27 : WP MX1_order Q (27, [l0, l1, l2], .ref p :: st, w, k, n) = go w p 5 fun fs => ∃ v, fs[0]? = some v ∧ WP MX1_order Q (30, [l0, l1, l2], v :: st, w, k, n) := get_e rfl dX1_order_27 rfl
theorem eX1_order_30 : WP MX1_order Q (30, [l0, some (.int a), l2], st, w, k, n) = WP MX1_order Q (31, [l0, some (.int a), l2], .int a :: st, w, k, n) := Eq.trans (WP_at (M := MX1_order) rfl dX1_order_30 (Or.inr rfl)) rfl
theorem eX1_order_31 : WP MX1_order Q (31, [l0, l1, l2], .int a :: .ref p :: st, w, k, n) = gl w p 0 fun N f => vp_in a N ∧ WP MX1_order Q (32, [l0, l1, l2], .long (f a.toNatClampNeg) :: st, w, k, n) := Eq.trans (WP_at (M := MX1_order) rfl dX1_order_31 (Or.inr rfl)) rfl
theorem eX1_order_32 : WP MX1_order Q (32, [some (.ref p), l1, l2], st, w, k, n) = WP MX1_order Q (33, [some (.ref p), l1, l2], .ref p :: st, w, k, n) := Eq.trans (WP_at (M := MX1_order) rfl dX1_order_32 (Or.inr rfl)) rfl
theorem eX1_order_32N : WP MX1_order Q (32, [some .null, l1, l2], st, w, k, n) = WP MX1_order Q (33, [some .null, l1, l2], .null :: st, w, k, n) := Eq.trans (WP_at (M := MX1_order) rfl dX1_order_32 (Or.inr rfl)) rfl
theorem eX1_order_33 : WP MX1_order Q (33, [l0, l1, l2], .ref p :: st, w, k, n) = go w p 5 fun fs => ∃ v, fs[0]? = some v ∧ WP MX1_order Q (36, [l0, l1, l2], v :: st, w, k, n) := get_e rfl dX1_order_33 rfl
theorem eX1_order_36 : WP MX1_order Q (36, [l0, l1, some (.int a)], st, w, k, n) = WP MX1_order Q (37, [l0, l1, some (.int a)], .int a :: st, w, k, n) := Eq.trans (WP_at (M := MX1_order) rfl dX1_order_36 (Or.inr rfl)) rfl
theorem eX1_order_37 : WP MX1_order Q (37, [l0, l1, l2], .int a :: .ref p :: st, w, k, n) = gl w p 0 fun N f => vp_in a N ∧ WP MX1_order Q (38, [l0, l1, l2], .long (f a.toNatClampNeg) :: st, w, k, n) := Eq.trans (WP_at (M := MX1_order) rfl dX1_order_37 (Or.inr rfl)) rfl
theorem eX1_order_38 : WP MX1_order Q (38, [l0, l1, l2], .long y :: .long x :: st, w, k, n) = WP MX1_order Q (39, [l0, l1, l2], .int (lg_cmp x y) :: st, w, k, n) := Eq.trans (WP_at (M := MX1_order) rfl dX1_order_38 (Or.inr rfl)) rfl
theorem eX1_order_39 : WP MX1_order Q (39, [l0, l1, l2], .int a :: st, w, k, n) = if a ≤ 0 then WP MX1_order Q (46, [l0, l1, l2], st, w, k, n) else WP MX1_order Q (42, [l0, l1, l2], st, w, k, n) := ifc_e (a ≤ 0) rfl dX1_order_39 rfl (by decide)
theorem eX1_order_42 : WP MX1_order Q (42, [l0, l1, l2], st, w, k, n) = WP MX1_order Q (43, [l0, l1, l2], .int 1 :: st, w, k, n) := iconst_e rfl dX1_order_42 (by decide)
theorem eX1_order_43 : WP MX1_order Q (43, [l0, l1, l2], st, w, k, n) = WP MX1_order Q (47, [l0, l1, l2], st, w, k, n) := goto_e rfl dX1_order_43 (by decide)
theorem eX1_order_46 : WP MX1_order Q (46, [l0, l1, l2], st, w, k, n) = WP MX1_order Q (47, [l0, l1, l2], .int 0 :: st, w, k, n) := iconst_e rfl dX1_order_46 (by decide)
theorem eX1_order_47 : WP MX1_order Q (47, [l0, l1, l2], [.int a], w, k, n) = (k ≤ 2 ∧ n ≤ 12 ∧ Q (.inl (some (.int a))) w) := (iret_e rfl dX1_order_47 rfl).trans (and_t rfl)
end
theorem vMX1_order {l : Launch} (hl : l.stackTraces = false) (G : GT) : vM l G MX1_order := ⟨fun i c j h => lookup_all (l := MX1_order.fld) (P := fun i e => vFld RX1 i e.1 e.2) (all_c (vF_RX1_9) (all_n)) i (c, j) h, fun i c fs h => lookup_all (l := MX1_order.new) (P := fun i e => vNew RX1 i e.1 e.2) (all_n) i (c, fs) h, lookup_all (l := MX1_order.anew) (P := fun i e => vANew RX1 i e) (all_n), lookup_all (l := MX1_order.lng) (P := fun i e => Jvm.Cond.constantLong RX1 i e ∈ WS) (all_n), lookup_all (l := MX1_order.thr) (P := fun i e => vThr RX1 cX1_order i e) (all_n), fun h => absurd rfl h, lookup_all (l := MX1_order.cal) (P := fun i e => vCal l G RX1 i e) (all_c (⟨cX1_needNumber, 1, none, fun y hy => by subst hy; exact ⟨by decide, wk_355, okX1_needNumber hl, wk_59, ⟨by decide, by decide⟩, ⟨by decide +kernel, wk_353, wk_354⟩⟩⟩) (all_n))⟩
theorem okX1_order {l : Launch} (hl : l.stackTraces = false) {G : GT} : ∀ (args : List Value) (w : Hw) (S : Ot → Hw → Prop), spOf MX1_order args w S → CX l G yX1_order (.code yX1_order cX1_order 3 (some .int)) 7 2 12 args w S := CX_sp (M := MX1_order) (y := yX1_order) hl (by decide) rfl (vMX1_order hl G) (fun h => by cases h)
/-! Rangecard.two(III)I -/
theorem dX1_two_0 : decode cX1_two 0 = .ok (.iload_n 1, 1) := by decide +kernel
theorem dX1_two_1 : decode cX1_two 1 = .ok (.invokestatic 79, 3) := by decide +kernel
theorem dX1_two_4 : decode cX1_two 4 = .ok (.iload_n 2, 1) := by decide +kernel
theorem dX1_two_5 : decode cX1_two 5 = .ok (.invokestatic 35, 3) := by decide +kernel
theorem dX1_two_8 : decode cX1_two 8 = .ok (.iload_n 3, 1) := by decide +kernel
theorem dX1_two_9 : decode cX1_two 9 = .ok (.invokestatic 35, 3) := by decide +kernel
theorem dX1_two_12 : decode cX1_two 12 = .ok (.aload_n 0, 1) := by decide +kernel
theorem dX1_two_13 : decode cX1_two 13 = .ok (.iload_n 1, 1) := by decide +kernel
theorem dX1_two_14 : decode cX1_two 14 = .ok (.aload_n 0, 1) := by decide +kernel
theorem dX1_two_15 : decode cX1_two 15 = .ok (.getfield 9, 3) := by decide +kernel
theorem dX1_two_18 : decode cX1_two 18 = .ok (.iload_n 2, 1) := by decide +kernel
theorem dX1_two_19 : decode cX1_two 19 = .ok (.laload, 1) := by decide +kernel
theorem dX1_two_20 : decode cX1_two 20 = .ok (.aload_n 0, 1) := by decide +kernel
theorem dX1_two_21 : decode cX1_two 21 = .ok (.getfield 9, 3) := by decide +kernel
theorem dX1_two_24 : decode cX1_two 24 = .ok (.iload_n 3, 1) := by decide +kernel
theorem dX1_two_25 : decode cX1_two 25 = .ok (.laload, 1) := by decide +kernel
theorem dX1_two_26 : decode cX1_two 26 = .ok (.invokestatic 82, 3) := by decide +kernel
theorem dX1_two_29 : decode cX1_two 29 = .ok (.invokevirtual 86, 3) := by decide +kernel
theorem dX1_two_32 : decode cX1_two 32 = .ok (.ireturn, 1) := by decide +kernel
def MX1_two : MT := ((RX1, cX1_two, 4, 7, 4, 22, false, some .int), [(9, 5, 0)], [], [], [], [], 0, [(79, 0, 1, 0, 6, 1, 6, yX1_needCard, spOf MX1_needCard), (35, 0, 1, 0, 6, 1, 6, yX1_needNumber, spOf MX1_needNumber), (82, 1, 2, 0, 3, 1, 4, yX0_ofTwo, spOf MX0_ofTwo), (86, 2, 3, 5, 2, 0, 0, yX1_give, spOf MX1_give)])
section
variable {Q : Ot → Hw → Prop} {st : List Value} {w : Hw} {k n p q : Nat} {a b : Int32} {x y : Int64} {u v : Value} {l0 l1 l2 l3 : Option Value}
theorem eX1_two_0 : WP MX1_two Q (0, [l0, some (.int a), l2, l3], st, w, k, n) = WP MX1_two Q (1, [l0, some (.int a), l2, l3], .int a :: st, w, k, n) := Eq.trans (WP_at (M := MX1_two) rfl dX1_two_0 (Or.inr rfl)) rfl
theorem eX1_two_1 {z0 : Int32} : WP MX1_two Q (1, [l0, l1, l2, l3], .int z0 :: st, w, k, n) = (wt st ≤ 8 ∧ k + 1 ≤ 4 ∧ n + 6 ≤ 22 ∧ WP MX1_needCard (kx (fun v w' => WP MX1_two Q (4, [l0, l1, l2, l3], v.toList ++ st, w', k + 1, n + 6)) (fun E w' => Q (.inr E) w')) (0, [some (.int z0)], [], w, 0, 0)) := csS (As := [.int z0]) (rest := st) MX1_needCard rfl dX1_two_1 rfl (by decide) (by decide) (Nat.le_of_ble_eq_true rfl) rfl
theorem eX1_two_4 : WP MX1_two Q (4, [l0, l1, some (.int a), l3], st, w, k, n) = WP MX1_two Q (5, [l0, l1, some (.int a), l3], .int a :: st, w, k, n) := Eq.trans (WP_at (M := MX1_two) rfl dX1_two_4 (Or.inr rfl)) rfl
theorem eX1_two_5 {z0 : Int32} : WP MX1_two Q (5, [l0, l1, l2, l3], .int z0 :: st, w, k, n) = (wt st ≤ 8 ∧ k + 1 ≤ 4 ∧ n + 6 ≤ 22 ∧ WP MX1_needNumber (kx (fun v w' => WP MX1_two Q (8, [l0, l1, l2, l3], v.toList ++ st, w', k + 1, n + 6)) (fun E w' => Q (.inr E) w')) (0, [some (.int z0)], [], w, 0, 0)) := csS (As := [.int z0]) (rest := st) MX1_needNumber rfl dX1_two_5 rfl (by decide) (by decide) (Nat.le_of_ble_eq_true rfl) rfl
theorem eX1_two_8 : WP MX1_two Q (8, [l0, l1, l2, some (.int a)], st, w, k, n) = WP MX1_two Q (9, [l0, l1, l2, some (.int a)], .int a :: st, w, k, n) := Eq.trans (WP_at (M := MX1_two) rfl dX1_two_8 (Or.inr rfl)) rfl
theorem eX1_two_9 {z0 : Int32} : WP MX1_two Q (9, [l0, l1, l2, l3], .int z0 :: st, w, k, n) = (wt st ≤ 8 ∧ k + 1 ≤ 4 ∧ n + 6 ≤ 22 ∧ WP MX1_needNumber (kx (fun v w' => WP MX1_two Q (12, [l0, l1, l2, l3], v.toList ++ st, w', k + 1, n + 6)) (fun E w' => Q (.inr E) w')) (0, [some (.int z0)], [], w, 0, 0)) := csS (As := [.int z0]) (rest := st) MX1_needNumber rfl dX1_two_9 rfl (by decide) (by decide) (Nat.le_of_ble_eq_true rfl) rfl
theorem eX1_two_12 : WP MX1_two Q (12, [some (.ref p), l1, l2, l3], st, w, k, n) = WP MX1_two Q (13, [some (.ref p), l1, l2, l3], .ref p :: st, w, k, n) := Eq.trans (WP_at (M := MX1_two) rfl dX1_two_12 (Or.inr rfl)) rfl
theorem eX1_two_12N : WP MX1_two Q (12, [some .null, l1, l2, l3], st, w, k, n) = WP MX1_two Q (13, [some .null, l1, l2, l3], .null :: st, w, k, n) := Eq.trans (WP_at (M := MX1_two) rfl dX1_two_12 (Or.inr rfl)) rfl
theorem eX1_two_13 : WP MX1_two Q (13, [l0, some (.int a), l2, l3], st, w, k, n) = WP MX1_two Q (14, [l0, some (.int a), l2, l3], .int a :: st, w, k, n) := Eq.trans (WP_at (M := MX1_two) rfl dX1_two_13 (Or.inr rfl)) rfl
theorem eX1_two_14 : WP MX1_two Q (14, [some (.ref p), l1, l2, l3], st, w, k, n) = WP MX1_two Q (15, [some (.ref p), l1, l2, l3], .ref p :: st, w, k, n) := Eq.trans (WP_at (M := MX1_two) rfl dX1_two_14 (Or.inr rfl)) rfl
theorem eX1_two_14N : WP MX1_two Q (14, [some .null, l1, l2, l3], st, w, k, n) = WP MX1_two Q (15, [some .null, l1, l2, l3], .null :: st, w, k, n) := Eq.trans (WP_at (M := MX1_two) rfl dX1_two_14 (Or.inr rfl)) rfl
theorem eX1_two_15 : WP MX1_two Q (15, [l0, l1, l2, l3], .ref p :: st, w, k, n) = go w p 5 fun fs => ∃ v, fs[0]? = some v ∧ WP MX1_two Q (18, [l0, l1, l2, l3], v :: st, w, k, n) := get_e rfl dX1_two_15 rfl
theorem eX1_two_18 : WP MX1_two Q (18, [l0, l1, some (.int a), l3], st, w, k, n) = WP MX1_two Q (19, [l0, l1, some (.int a), l3], .int a :: st, w, k, n) := Eq.trans (WP_at (M := MX1_two) rfl dX1_two_18 (Or.inr rfl)) rfl
theorem eX1_two_19 : WP MX1_two Q (19, [l0, l1, l2, l3], .int a :: .ref p :: st, w, k, n) = gl w p 0 fun N f => vp_in a N ∧ WP MX1_two Q (20, [l0, l1, l2, l3], .long (f a.toNatClampNeg) :: st, w, k, n) := Eq.trans (WP_at (M := MX1_two) rfl dX1_two_19 (Or.inr rfl)) rfl
theorem eX1_two_20 : WP MX1_two Q (20, [some (.ref p), l1, l2, l3], st, w, k, n) = WP MX1_two Q (21, [some (.ref p), l1, l2, l3], .ref p :: st, w, k, n) := Eq.trans (WP_at (M := MX1_two) rfl dX1_two_20 (Or.inr rfl)) rfl
theorem eX1_two_20N : WP MX1_two Q (20, [some .null, l1, l2, l3], st, w, k, n) = WP MX1_two Q (21, [some .null, l1, l2, l3], .null :: st, w, k, n) := Eq.trans (WP_at (M := MX1_two) rfl dX1_two_20 (Or.inr rfl)) rfl
theorem eX1_two_21 : WP MX1_two Q (21, [l0, l1, l2, l3], .ref p :: st, w, k, n) = go w p 5 fun fs => ∃ v, fs[0]? = some v ∧ WP MX1_two Q (24, [l0, l1, l2, l3], v :: st, w, k, n) := get_e rfl dX1_two_21 rfl
theorem eX1_two_24 : WP MX1_two Q (24, [l0, l1, l2, some (.int a)], st, w, k, n) = WP MX1_two Q (25, [l0, l1, l2, some (.int a)], .int a :: st, w, k, n) := Eq.trans (WP_at (M := MX1_two) rfl dX1_two_24 (Or.inr rfl)) rfl
theorem eX1_two_25 : WP MX1_two Q (25, [l0, l1, l2, l3], .int a :: .ref p :: st, w, k, n) = gl w p 0 fun N f => vp_in a N ∧ WP MX1_two Q (26, [l0, l1, l2, l3], .long (f a.toNatClampNeg) :: st, w, k, n) := Eq.trans (WP_at (M := MX1_two) rfl dX1_two_25 (Or.inr rfl)) rfl
theorem eX1_two_26 {z0 : Int64} {z1 : Int64} : WP MX1_two Q (26, [l0, l1, l2, l3], .long z1 :: .long z0 :: st, w, k, n) = (wt st ≤ 8 ∧ k + 1 ≤ 4 ∧ n + 4 ≤ 22 ∧ WP MX0_ofTwo (kx (fun v w' => WP MX1_two Q (29, [l0, l1, l2, l3], v.toList ++ st, w', k + 1, n + 4)) (fun E w' => Q (.inr E) w')) (0, [some (.long z0), none, some (.long z1), none], [], w, 0, 0)) := csS (As := [.long z0, .long z1]) (rest := st) MX0_ofTwo rfl dX1_two_26 rfl (by decide) (by decide) (Nat.le_of_ble_eq_true rfl) rfl
theorem eX1_two_29R {z0 : Int32} {z1 : Nat} : WP MX1_two Q (29, [l0, l1, l2, l3], .ref z1 :: .int z0 :: .ref p :: st, w, k, n) = (go w p 5 (fun _ => True) ∧ wt st ≤ 8 ∧ k + 0 ≤ 4 ∧ n + 0 ≤ 22 ∧ WP MX1_give (kx (fun v w' => WP MX1_two Q (32, [l0, l1, l2, l3], v.toList ++ st, w', k + 0, n + 0)) (fun E w' => Q (.inr E) w')) (0, [some (.ref p), some (.int z0), some (.ref z1)], [], w, 0, 0)) := csV (As := [.int z0, .ref z1]) (rest := st) MX1_give rfl dX1_two_29 rfl (by decide) (by decide) (Nat.le_of_ble_eq_true rfl) rfl
theorem eX1_two_29N {z0 : Int32} : WP MX1_two Q (29, [l0, l1, l2, l3], .null :: .int z0 :: .ref p :: st, w, k, n) = (go w p 5 (fun _ => True) ∧ wt st ≤ 8 ∧ k + 0 ≤ 4 ∧ n + 0 ≤ 22 ∧ WP MX1_give (kx (fun v w' => WP MX1_two Q (32, [l0, l1, l2, l3], v.toList ++ st, w', k + 0, n + 0)) (fun E w' => Q (.inr E) w')) (0, [some (.ref p), some (.int z0), some .null], [], w, 0, 0)) := csV (As := [.int z0, .null]) (rest := st) MX1_give rfl dX1_two_29 rfl (by decide) (by decide) (Nat.le_of_ble_eq_true rfl) rfl
theorem eX1_two_32 : WP MX1_two Q (32, [l0, l1, l2, l3], [.int a], w, k, n) = (k ≤ 4 ∧ n ≤ 22 ∧ Q (.inl (some (.int a))) w) := (iret_e rfl dX1_two_32 rfl).trans (and_t rfl)
end
theorem wk_823 : (.code yX1_give cX1_give 3 (some .int) : Jvm.Cond) ∈ WS := WS_at 823 (by decide +kernel) rfl
theorem wk_820 : (.methodLink RX1 86 yX1_give : Jvm.Cond) ∈ WS := WS_at 820 (by decide +kernel) rfl
theorem wk_822 : (.instanceMethod yX1_give : Jvm.Cond) ∈ WS := WS_at 822 (by decide +kernel) rfl
theorem wk_29 : (.selects RX1 yX1_give yX1_give : Jvm.Cond) ∈ WS := WS_at 29 (by decide +kernel) rfl
theorem vMX1_two {l : Launch} (hl : l.stackTraces = false) (G : GT) : vM l G MX1_two := ⟨fun i c j h => lookup_all (l := MX1_two.fld) (P := fun i e => vFld RX1 i e.1 e.2) (all_c (vF_RX1_9) (all_n)) i (c, j) h, fun i c fs h => lookup_all (l := MX1_two.new) (P := fun i e => vNew RX1 i e.1 e.2) (all_n) i (c, fs) h, lookup_all (l := MX1_two.anew) (P := fun i e => vANew RX1 i e) (all_n), lookup_all (l := MX1_two.lng) (P := fun i e => Jvm.Cond.constantLong RX1 i e ∈ WS) (all_n), lookup_all (l := MX1_two.thr) (P := fun i e => vThr RX1 cX1_two i e) (all_n), fun h => absurd rfl h, lookup_all (l := MX1_two.cal) (P := fun i e => vCal l G RX1 i e) (all_c (⟨cX1_needCard, 1, none, fun y hy => by subst hy; exact ⟨by decide, wk_818, okX1_needCard hl, wk_59, ⟨by decide, by decide⟩, ⟨by decide +kernel, wk_816, wk_817⟩⟩⟩) (all_c (⟨cX1_needNumber, 1, none, fun y hy => by subst hy; exact ⟨by decide, wk_355, okX1_needNumber hl, wk_59, ⟨by decide, by decide⟩, ⟨by decide +kernel, wk_353, wk_354⟩⟩⟩) (all_c (⟨cX0_ofTwo, 4, some (.object "Rangecard$Range"), fun y hy => by subst hy; exact ⟨by decide, wk_194, okX0_ofTwo hl, wk_84, ⟨by decide, by decide⟩, ⟨by decide +kernel, ⟨"Rangecard", List.mem_of_getElem? (i := 192) (by decide +kernel)⟩, wk_193⟩⟩⟩) (all_c (⟨cX1_give, 3, some .int, fun y hy => by subst hy; exact ⟨by decide, wk_823, okX1_give hl, wk_59, ⟨by decide, by decide⟩, ⟨by decide +kernel, wk_820, wk_822, wk_29, (RX1, TX1, 7), rfl, rfl⟩⟩⟩) (all_n)))))⟩
theorem okX1_two {l : Launch} (hl : l.stackTraces = false) {G : GT} : ∀ (args : List Value) (w : Hw) (S : Ot → Hw → Prop), spOf MX1_two args w S → CX l G yX1_two (.code yX1_two cX1_two 4 (some .int)) 7 4 22 args w S := CX_sp (M := MX1_two) (y := yX1_two) hl (by decide) rfl (vMX1_two hl G) (fun h => by cases h)
/-! Rangecard.three(IIII)I -/
theorem dX1_three_0 : decode cX1_three 0 = .ok (.iload_n 1, 1) := by decide +kernel
theorem dX1_three_1 : decode cX1_three 1 = .ok (.invokestatic 79, 3) := by decide +kernel
theorem dX1_three_4 : decode cX1_three 4 = .ok (.iload_n 2, 1) := by decide +kernel
theorem dX1_three_5 : decode cX1_three 5 = .ok (.invokestatic 35, 3) := by decide +kernel
theorem dX1_three_8 : decode cX1_three 8 = .ok (.iload_n 3, 1) := by decide +kernel
theorem dX1_three_9 : decode cX1_three 9 = .ok (.invokestatic 35, 3) := by decide +kernel
theorem dX1_three_12 : decode cX1_three 12 = .ok (.iload 4, 2) := by decide +kernel
theorem dX1_three_14 : decode cX1_three 14 = .ok (.invokestatic 35, 3) := by decide +kernel
theorem dX1_three_17 : decode cX1_three 17 = .ok (.aload_n 0, 1) := by decide +kernel
theorem dX1_three_18 : decode cX1_three 18 = .ok (.iload_n 1, 1) := by decide +kernel
theorem dX1_three_19 : decode cX1_three 19 = .ok (.aload_n 0, 1) := by decide +kernel
theorem dX1_three_20 : decode cX1_three 20 = .ok (.getfield 9, 3) := by decide +kernel
theorem dX1_three_23 : decode cX1_three 23 = .ok (.iload_n 2, 1) := by decide +kernel
theorem dX1_three_24 : decode cX1_three 24 = .ok (.laload, 1) := by decide +kernel
theorem dX1_three_25 : decode cX1_three 25 = .ok (.aload_n 0, 1) := by decide +kernel
theorem dX1_three_26 : decode cX1_three 26 = .ok (.getfield 9, 3) := by decide +kernel
theorem dX1_three_29 : decode cX1_three 29 = .ok (.iload_n 3, 1) := by decide +kernel
theorem dX1_three_30 : decode cX1_three 30 = .ok (.laload, 1) := by decide +kernel
theorem dX1_three_31 : decode cX1_three 31 = .ok (.aload_n 0, 1) := by decide +kernel
theorem dX1_three_32 : decode cX1_three 32 = .ok (.getfield 9, 3) := by decide +kernel
theorem dX1_three_35 : decode cX1_three 35 = .ok (.iload 4, 2) := by decide +kernel
theorem dX1_three_37 : decode cX1_three 37 = .ok (.laload, 1) := by decide +kernel
theorem dX1_three_38 : decode cX1_three 38 = .ok (.invokestatic 90, 3) := by decide +kernel
theorem dX1_three_41 : decode cX1_three 41 = .ok (.invokevirtual 86, 3) := by decide +kernel
theorem dX1_three_44 : decode cX1_three 44 = .ok (.ireturn, 1) := by decide +kernel
def MX1_three : MT := ((RX1, cX1_three, 5, 7, 5, 28, false, some .int), [(9, 5, 0)], [], [], [], [], 0, [(79, 0, 1, 0, 6, 1, 6, yX1_needCard, spOf MX1_needCard), (35, 0, 1, 0, 6, 1, 6, yX1_needNumber, spOf MX1_needNumber), (90, 1, 3, 0, 3, 1, 4, yX0_ofThree, spOf MX0_ofThree), (86, 2, 3, 5, 2, 0, 0, yX1_give, spOf MX1_give)])
section
variable {Q : Ot → Hw → Prop} {st : List Value} {w : Hw} {k n p q : Nat} {a b : Int32} {x y : Int64} {u v : Value} {l0 l1 l2 l3 l4 : Option Value}
theorem eX1_three_0 : WP MX1_three Q (0, [l0, some (.int a), l2, l3, l4], st, w, k, n) = WP MX1_three Q (1, [l0, some (.int a), l2, l3, l4], .int a :: st, w, k, n) := Eq.trans (WP_at (M := MX1_three) rfl dX1_three_0 (Or.inr rfl)) rfl
theorem eX1_three_1 {z0 : Int32} : WP MX1_three Q (1, [l0, l1, l2, l3, l4], .int z0 :: st, w, k, n) = (wt st ≤ 8 ∧ k + 1 ≤ 5 ∧ n + 6 ≤ 28 ∧ WP MX1_needCard (kx (fun v w' => WP MX1_three Q (4, [l0, l1, l2, l3, l4], v.toList ++ st, w', k + 1, n + 6)) (fun E w' => Q (.inr E) w')) (0, [some (.int z0)], [], w, 0, 0)) := csS (As := [.int z0]) (rest := st) MX1_needCard rfl dX1_three_1 rfl (by decide) (by decide) (Nat.le_of_ble_eq_true rfl) rfl
theorem eX1_three_4 : WP MX1_three Q (4, [l0, l1, some (.int a), l3, l4], st, w, k, n) = WP MX1_three Q (5, [l0, l1, some (.int a), l3, l4], .int a :: st, w, k, n) := Eq.trans (WP_at (M := MX1_three) rfl dX1_three_4 (Or.inr rfl)) rfl
theorem eX1_three_5 {z0 : Int32} : WP MX1_three Q (5, [l0, l1, l2, l3, l4], .int z0 :: st, w, k, n) = (wt st ≤ 8 ∧ k + 1 ≤ 5 ∧ n + 6 ≤ 28 ∧ WP MX1_needNumber (kx (fun v w' => WP MX1_three Q (8, [l0, l1, l2, l3, l4], v.toList ++ st, w', k + 1, n + 6)) (fun E w' => Q (.inr E) w')) (0, [some (.int z0)], [], w, 0, 0)) := csS (As := [.int z0]) (rest := st) MX1_needNumber rfl dX1_three_5 rfl (by decide) (by decide) (Nat.le_of_ble_eq_true rfl) rfl
theorem eX1_three_8 : WP MX1_three Q (8, [l0, l1, l2, some (.int a), l4], st, w, k, n) = WP MX1_three Q (9, [l0, l1, l2, some (.int a), l4], .int a :: st, w, k, n) := Eq.trans (WP_at (M := MX1_three) rfl dX1_three_8 (Or.inr rfl)) rfl
theorem eX1_three_9 {z0 : Int32} : WP MX1_three Q (9, [l0, l1, l2, l3, l4], .int z0 :: st, w, k, n) = (wt st ≤ 8 ∧ k + 1 ≤ 5 ∧ n + 6 ≤ 28 ∧ WP MX1_needNumber (kx (fun v w' => WP MX1_three Q (12, [l0, l1, l2, l3, l4], v.toList ++ st, w', k + 1, n + 6)) (fun E w' => Q (.inr E) w')) (0, [some (.int z0)], [], w, 0, 0)) := csS (As := [.int z0]) (rest := st) MX1_needNumber rfl dX1_three_9 rfl (by decide) (by decide) (Nat.le_of_ble_eq_true rfl) rfl
theorem eX1_three_12 : WP MX1_three Q (12, [l0, l1, l2, l3, some (.int a)], st, w, k, n) = WP MX1_three Q (14, [l0, l1, l2, l3, some (.int a)], .int a :: st, w, k, n) := Eq.trans (WP_at (M := MX1_three) rfl dX1_three_12 (Or.inr rfl)) rfl
theorem eX1_three_14 {z0 : Int32} : WP MX1_three Q (14, [l0, l1, l2, l3, l4], .int z0 :: st, w, k, n) = (wt st ≤ 8 ∧ k + 1 ≤ 5 ∧ n + 6 ≤ 28 ∧ WP MX1_needNumber (kx (fun v w' => WP MX1_three Q (17, [l0, l1, l2, l3, l4], v.toList ++ st, w', k + 1, n + 6)) (fun E w' => Q (.inr E) w')) (0, [some (.int z0)], [], w, 0, 0)) := csS (As := [.int z0]) (rest := st) MX1_needNumber rfl dX1_three_14 rfl (by decide) (by decide) (Nat.le_of_ble_eq_true rfl) rfl
theorem eX1_three_17 : WP MX1_three Q (17, [some (.ref p), l1, l2, l3, l4], st, w, k, n) = WP MX1_three Q (18, [some (.ref p), l1, l2, l3, l4], .ref p :: st, w, k, n) := Eq.trans (WP_at (M := MX1_three) rfl dX1_three_17 (Or.inr rfl)) rfl
theorem eX1_three_17N : WP MX1_three Q (17, [some .null, l1, l2, l3, l4], st, w, k, n) = WP MX1_three Q (18, [some .null, l1, l2, l3, l4], .null :: st, w, k, n) := Eq.trans (WP_at (M := MX1_three) rfl dX1_three_17 (Or.inr rfl)) rfl
theorem eX1_three_18 : WP MX1_three Q (18, [l0, some (.int a), l2, l3, l4], st, w, k, n) = WP MX1_three Q (19, [l0, some (.int a), l2, l3, l4], .int a :: st, w, k, n) := Eq.trans (WP_at (M := MX1_three) rfl dX1_three_18 (Or.inr rfl)) rfl
theorem eX1_three_19 : WP MX1_three Q (19, [some (.ref p), l1, l2, l3, l4], st, w, k, n) = WP MX1_three Q (20, [some (.ref p), l1, l2, l3, l4], .ref p :: st, w, k, n) := Eq.trans (WP_at (M := MX1_three) rfl dX1_three_19 (Or.inr rfl)) rfl
theorem eX1_three_19N : WP MX1_three Q (19, [some .null, l1, l2, l3, l4], st, w, k, n) = WP MX1_three Q (20, [some .null, l1, l2, l3, l4], .null :: st, w, k, n) := Eq.trans (WP_at (M := MX1_three) rfl dX1_three_19 (Or.inr rfl)) rfl
theorem eX1_three_20 : WP MX1_three Q (20, [l0, l1, l2, l3, l4], .ref p :: st, w, k, n) = go w p 5 fun fs => ∃ v, fs[0]? = some v ∧ WP MX1_three Q (23, [l0, l1, l2, l3, l4], v :: st, w, k, n) := get_e rfl dX1_three_20 rfl
theorem eX1_three_23 : WP MX1_three Q (23, [l0, l1, some (.int a), l3, l4], st, w, k, n) = WP MX1_three Q (24, [l0, l1, some (.int a), l3, l4], .int a :: st, w, k, n) := Eq.trans (WP_at (M := MX1_three) rfl dX1_three_23 (Or.inr rfl)) rfl
theorem eX1_three_24 : WP MX1_three Q (24, [l0, l1, l2, l3, l4], .int a :: .ref p :: st, w, k, n) = gl w p 0 fun N f => vp_in a N ∧ WP MX1_three Q (25, [l0, l1, l2, l3, l4], .long (f a.toNatClampNeg) :: st, w, k, n) := Eq.trans (WP_at (M := MX1_three) rfl dX1_three_24 (Or.inr rfl)) rfl
theorem eX1_three_25 : WP MX1_three Q (25, [some (.ref p), l1, l2, l3, l4], st, w, k, n) = WP MX1_three Q (26, [some (.ref p), l1, l2, l3, l4], .ref p :: st, w, k, n) := Eq.trans (WP_at (M := MX1_three) rfl dX1_three_25 (Or.inr rfl)) rfl
theorem eX1_three_25N : WP MX1_three Q (25, [some .null, l1, l2, l3, l4], st, w, k, n) = WP MX1_three Q (26, [some .null, l1, l2, l3, l4], .null :: st, w, k, n) := Eq.trans (WP_at (M := MX1_three) rfl dX1_three_25 (Or.inr rfl)) rfl
theorem eX1_three_26 : WP MX1_three Q (26, [l0, l1, l2, l3, l4], .ref p :: st, w, k, n) = go w p 5 fun fs => ∃ v, fs[0]? = some v ∧ WP MX1_three Q (29, [l0, l1, l2, l3, l4], v :: st, w, k, n) := get_e rfl dX1_three_26 rfl
theorem eX1_three_29 : WP MX1_three Q (29, [l0, l1, l2, some (.int a), l4], st, w, k, n) = WP MX1_three Q (30, [l0, l1, l2, some (.int a), l4], .int a :: st, w, k, n) := Eq.trans (WP_at (M := MX1_three) rfl dX1_three_29 (Or.inr rfl)) rfl
theorem eX1_three_30 : WP MX1_three Q (30, [l0, l1, l2, l3, l4], .int a :: .ref p :: st, w, k, n) = gl w p 0 fun N f => vp_in a N ∧ WP MX1_three Q (31, [l0, l1, l2, l3, l4], .long (f a.toNatClampNeg) :: st, w, k, n) := Eq.trans (WP_at (M := MX1_three) rfl dX1_three_30 (Or.inr rfl)) rfl
theorem eX1_three_31 : WP MX1_three Q (31, [some (.ref p), l1, l2, l3, l4], st, w, k, n) = WP MX1_three Q (32, [some (.ref p), l1, l2, l3, l4], .ref p :: st, w, k, n) := Eq.trans (WP_at (M := MX1_three) rfl dX1_three_31 (Or.inr rfl)) rfl
theorem eX1_three_31N : WP MX1_three Q (31, [some .null, l1, l2, l3, l4], st, w, k, n) = WP MX1_three Q (32, [some .null, l1, l2, l3, l4], .null :: st, w, k, n) := Eq.trans (WP_at (M := MX1_three) rfl dX1_three_31 (Or.inr rfl)) rfl
theorem eX1_three_32 : WP MX1_three Q (32, [l0, l1, l2, l3, l4], .ref p :: st, w, k, n) = go w p 5 fun fs => ∃ v, fs[0]? = some v ∧ WP MX1_three Q (35, [l0, l1, l2, l3, l4], v :: st, w, k, n) := get_e rfl dX1_three_32 rfl
theorem eX1_three_35 : WP MX1_three Q (35, [l0, l1, l2, l3, some (.int a)], st, w, k, n) = WP MX1_three Q (37, [l0, l1, l2, l3, some (.int a)], .int a :: st, w, k, n) := Eq.trans (WP_at (M := MX1_three) rfl dX1_three_35 (Or.inr rfl)) rfl
theorem eX1_three_37 : WP MX1_three Q (37, [l0, l1, l2, l3, l4], .int a :: .ref p :: st, w, k, n) = gl w p 0 fun N f => vp_in a N ∧ WP MX1_three Q (38, [l0, l1, l2, l3, l4], .long (f a.toNatClampNeg) :: st, w, k, n) := Eq.trans (WP_at (M := MX1_three) rfl dX1_three_37 (Or.inr rfl)) rfl
theorem eX1_three_38 {z0 : Int64} {z1 : Int64} {z2 : Int64} : WP MX1_three Q (38, [l0, l1, l2, l3, l4], .long z2 :: .long z1 :: .long z0 :: st, w, k, n) = (wt st ≤ 8 ∧ k + 1 ≤ 5 ∧ n + 4 ≤ 28 ∧ WP MX0_ofThree (kx (fun v w' => WP MX1_three Q (41, [l0, l1, l2, l3, l4], v.toList ++ st, w', k + 1, n + 4)) (fun E w' => Q (.inr E) w')) (0, [some (.long z0), none, some (.long z1), none, some (.long z2), none], [], w, 0, 0)) := csS (As := [.long z0, .long z1, .long z2]) (rest := st) MX0_ofThree rfl dX1_three_38 rfl (by decide) (by decide) (Nat.le_of_ble_eq_true rfl) rfl
theorem eX1_three_41R {z0 : Int32} {z1 : Nat} : WP MX1_three Q (41, [l0, l1, l2, l3, l4], .ref z1 :: .int z0 :: .ref p :: st, w, k, n) = (go w p 5 (fun _ => True) ∧ wt st ≤ 8 ∧ k + 0 ≤ 5 ∧ n + 0 ≤ 28 ∧ WP MX1_give (kx (fun v w' => WP MX1_three Q (44, [l0, l1, l2, l3, l4], v.toList ++ st, w', k + 0, n + 0)) (fun E w' => Q (.inr E) w')) (0, [some (.ref p), some (.int z0), some (.ref z1)], [], w, 0, 0)) := csV (As := [.int z0, .ref z1]) (rest := st) MX1_give rfl dX1_three_41 rfl (by decide) (by decide) (Nat.le_of_ble_eq_true rfl) rfl
theorem eX1_three_41N {z0 : Int32} : WP MX1_three Q (41, [l0, l1, l2, l3, l4], .null :: .int z0 :: .ref p :: st, w, k, n) = (go w p 5 (fun _ => True) ∧ wt st ≤ 8 ∧ k + 0 ≤ 5 ∧ n + 0 ≤ 28 ∧ WP MX1_give (kx (fun v w' => WP MX1_three Q (44, [l0, l1, l2, l3, l4], v.toList ++ st, w', k + 0, n + 0)) (fun E w' => Q (.inr E) w')) (0, [some (.ref p), some (.int z0), some .null], [], w, 0, 0)) := csV (As := [.int z0, .null]) (rest := st) MX1_give rfl dX1_three_41 rfl (by decide) (by decide) (Nat.le_of_ble_eq_true rfl) rfl
theorem eX1_three_44 : WP MX1_three Q (44, [l0, l1, l2, l3, l4], [.int a], w, k, n) = (k ≤ 5 ∧ n ≤ 28 ∧ Q (.inl (some (.int a))) w) := (iret_e rfl dX1_three_44 rfl).trans (and_t rfl)
end
theorem wk_837 : (.code yX0_ofThree cX0_ofThree 6 (some (.object "Rangecard$Range")) : Jvm.Cond) ∈ WS := WS_at 837 (by decide +kernel) rfl
theorem wk_836 : (.static yX0_ofThree : Jvm.Cond) ∈ WS := WS_at 836 (by decide +kernel) rfl
theorem vMX1_three {l : Launch} (hl : l.stackTraces = false) (G : GT) : vM l G MX1_three := ⟨fun i c j h => lookup_all (l := MX1_three.fld) (P := fun i e => vFld RX1 i e.1 e.2) (all_c (vF_RX1_9) (all_n)) i (c, j) h, fun i c fs h => lookup_all (l := MX1_three.new) (P := fun i e => vNew RX1 i e.1 e.2) (all_n) i (c, fs) h, lookup_all (l := MX1_three.anew) (P := fun i e => vANew RX1 i e) (all_n), lookup_all (l := MX1_three.lng) (P := fun i e => Jvm.Cond.constantLong RX1 i e ∈ WS) (all_n), lookup_all (l := MX1_three.thr) (P := fun i e => vThr RX1 cX1_three i e) (all_n), fun h => absurd rfl h, lookup_all (l := MX1_three.cal) (P := fun i e => vCal l G RX1 i e) (all_c (⟨cX1_needCard, 1, none, fun y hy => by subst hy; exact ⟨by decide, wk_818, okX1_needCard hl, wk_59, ⟨by decide, by decide⟩, ⟨by decide +kernel, wk_816, wk_817⟩⟩⟩) (all_c (⟨cX1_needNumber, 1, none, fun y hy => by subst hy; exact ⟨by decide, wk_355, okX1_needNumber hl, wk_59, ⟨by decide, by decide⟩, ⟨by decide +kernel, wk_353, wk_354⟩⟩⟩) (all_c (⟨cX0_ofThree, 6, some (.object "Rangecard$Range"), fun y hy => by subst hy; exact ⟨by decide, wk_837, okX0_ofThree hl, wk_84, ⟨by decide, by decide⟩, ⟨by decide +kernel, ⟨"Rangecard", List.mem_of_getElem? (i := 835) (by decide +kernel)⟩, wk_836⟩⟩⟩) (all_c (⟨cX1_give, 3, some .int, fun y hy => by subst hy; exact ⟨by decide, wk_823, okX1_give hl, wk_59, ⟨by decide, by decide⟩, ⟨by decide +kernel, wk_820, wk_822, wk_29, (RX1, TX1, 7), rfl, rfl⟩⟩⟩) (all_n)))))⟩
theorem okX1_three {l : Launch} (hl : l.stackTraces = false) {G : GT} : ∀ (args : List Value) (w : Hw) (S : Ot → Hw → Prop), spOf MX1_three args w S → CX l G yX1_three (.code yX1_three cX1_three 5 (some .int)) 7 5 28 args w S := CX_sp (M := MX1_three) (y := yX1_three) hl (by decide) rfl (vMX1_three hl G) (fun h => by cases h)
