/-! Rangecard.likes(I)I -/
theorem dX1_likes_0 : decode cX1_likes 0 = .ok (.aload_n 0, 1) := by decide +kernel
theorem dX1_likes_1 : decode cX1_likes 1 = .ok (.aload_n 0, 1) := by decide +kernel
theorem dX1_likes_2 : decode cX1_likes 2 = .ok (.iload_n 1, 1) := by decide +kernel
theorem dX1_likes_3 : decode cX1_likes 3 = .ok (.invokevirtual 98, 3) := by decide +kernel
theorem dX1_likes_6 : decode cX1_likes 6 = .ok (.invokevirtual 179, 3) := by decide +kernel
theorem dX1_likes_9 : decode cX1_likes 9 = .ok (.ireturn, 1) := by decide +kernel
def MX1_likes : MT := ((RX1, cX1_likes, 2, 8, 2, 12, false, some .int), [], [], [], [], [], 0, [(98, 2, 2, 5, 7, 2, 12, yX1_rangeOf, spOf MX1_rangeOf), (179, 2, 2, 5, 2, 0, 0, yX1_cardsLike, spOf MX1_cardsLike)])
section
variable {Q : Ot → Hw → Prop} {st : List Value} {w : Hw} {k n p q : Nat} {a b : Int32} {x y : Int64} {u v : Value} {l0 l1 : Option Value}
theorem eX1_likes_0 : WP MX1_likes Q (0, [some (.ref p), l1], st, w, k, n) = WP MX1_likes Q (1, [some (.ref p), l1], .ref p :: st, w, k, n) := Eq.trans (WP_at (M := MX1_likes) rfl dX1_likes_0 (Or.inr rfl)) rfl
theorem eX1_likes_0N : WP MX1_likes Q (0, [some .null, l1], st, w, k, n) = WP MX1_likes Q (1, [some .null, l1], .null :: st, w, k, n) := Eq.trans (WP_at (M := MX1_likes) rfl dX1_likes_0 (Or.inr rfl)) rfl
theorem eX1_likes_1 : WP MX1_likes Q (1, [some (.ref p), l1], st, w, k, n) = WP MX1_likes Q (2, [some (.ref p), l1], .ref p :: st, w, k, n) := Eq.trans (WP_at (M := MX1_likes) rfl dX1_likes_1 (Or.inr rfl)) rfl
theorem eX1_likes_1N : WP MX1_likes Q (1, [some .null, l1], st, w, k, n) = WP MX1_likes Q (2, [some .null, l1], .null :: st, w, k, n) := Eq.trans (WP_at (M := MX1_likes) rfl dX1_likes_1 (Or.inr rfl)) rfl
theorem eX1_likes_2 : WP MX1_likes Q (2, [l0, some (.int a)], st, w, k, n) = WP MX1_likes Q (3, [l0, some (.int a)], .int a :: st, w, k, n) := Eq.trans (WP_at (M := MX1_likes) rfl dX1_likes_2 (Or.inr rfl)) rfl
theorem eX1_likes_3 {z0 : Int32} : WP MX1_likes Q (3, [l0, l1], .int z0 :: .ref p :: st, w, k, n) = (go w p 5 (fun _ => True) ∧ wt st ≤ 8 ∧ k + 2 ≤ 2 ∧ n + 12 ≤ 12 ∧ WP MX1_rangeOf (kx (fun v w' => WP MX1_likes Q (6, [l0, l1], v.toList ++ st, w', k + 2, n + 12)) (fun E w' => Q (.inr E) w')) (0, [some (.ref p), some (.int z0), none], [], w, 0, 0)) := csV (As := [.int z0]) (rest := st) MX1_rangeOf rfl dX1_likes_3 rfl (by decide) (by decide) (Nat.le_of_ble_eq_true rfl) rfl
theorem eX1_likes_6R {z0 : Nat} : WP MX1_likes Q (6, [l0, l1], .ref z0 :: .ref p :: st, w, k, n) = (go w p 5 (fun _ => True) ∧ wt st ≤ 8 ∧ k + 0 ≤ 2 ∧ n + 0 ≤ 12 ∧ WP MX1_cardsLike (kx (fun v w' => WP MX1_likes Q (9, [l0, l1], v.toList ++ st, w', k + 0, n + 0)) (fun E w' => Q (.inr E) w')) (0, [some (.ref p), some (.ref z0), none, none, none], [], w, 0, 0)) := csV (As := [.ref z0]) (rest := st) MX1_cardsLike rfl dX1_likes_6 rfl (by decide) (by decide) (Nat.le_of_ble_eq_true rfl) rfl
theorem eX1_likes_6N  : WP MX1_likes Q (6, [l0, l1], .null :: .ref p :: st, w, k, n) = (go w p 5 (fun _ => True) ∧ wt st ≤ 8 ∧ k + 0 ≤ 2 ∧ n + 0 ≤ 12 ∧ WP MX1_cardsLike (kx (fun v w' => WP MX1_likes Q (9, [l0, l1], v.toList ++ st, w', k + 0, n + 0)) (fun E w' => Q (.inr E) w')) (0, [some (.ref p), some .null, none, none, none], [], w, 0, 0)) := csV (As := [.null]) (rest := st) MX1_cardsLike rfl dX1_likes_6 rfl (by decide) (by decide) (Nat.le_of_ble_eq_true rfl) rfl
theorem eX1_likes_9 : WP MX1_likes Q (9, [l0, l1], [.int a], w, k, n) = (k ≤ 2 ∧ n ≤ 12 ∧ Q (.inl (some (.int a))) w) := (iret_e rfl dX1_likes_9 rfl).trans (and_t rfl)
end
theorem vMX1_likes {l : Launch} (hl : l.stackTraces = false) (G : GT) : vM l G MX1_likes := ⟨fun i c j h => lookup_all (l := MX1_likes.fld) (P := fun i e => vFld RX1 i e.1 e.2) (all_n) i (c, j) h, fun i c fs h => lookup_all (l := MX1_likes.new) (P := fun i e => vNew RX1 i e.1 e.2) (all_n) i (c, fs) h, lookup_all (l := MX1_likes.anew) (P := fun i e => vANew RX1 i e) (all_n), lookup_all (l := MX1_likes.lng) (P := fun i e => Jvm.Cond.constantLong RX1 i e ∈ WS) (all_n), lookup_all (l := MX1_likes.thr) (P := fun i e => vThr RX1 cX1_likes i e) (all_n), fun h => absurd rfl h, lookup_all (l := MX1_likes.cal) (P := fun i e => vCal l G RX1 i e) (all_c (⟨cX1_rangeOf, 3, some (.object "Rangecard$Range"), fun y hy => by subst hy; exact ⟨by decide, wk_877, okX1_rangeOf hl, wk_59, ⟨by decide, by decide⟩, ⟨by decide +kernel, wk_874, wk_876, wk_31, (RX1, TX1, 7), rfl, rfl⟩⟩⟩) (all_c (⟨cX1_cardsLike, 5, some .int, fun y hy => by subst hy; exact ⟨by decide, wk_300, okX1_cardsLike hl, wk_59, ⟨by decide, by decide⟩, ⟨by decide +kernel, wk_297, wk_299, wk_20, (RX1, TX1, 7), rfl, rfl⟩⟩⟩) (all_n)))⟩
theorem okX1_likes {l : Launch} (hl : l.stackTraces = false) {G : GT} : ∀ (args : List Value) (w : Hw) (S : Ot → Hw → Prop), spOf MX1_likes args w S → CX l G yX1_likes (.code yX1_likes cX1_likes 2 (some .int)) 8 2 12 args w S := CX_sp (M := MX1_likes) (y := yX1_likes) hl (by decide) rfl (vMX1_likes hl G) (fun h => by cases h)
/-! Rangecard.lay(I)I -/
theorem dX1_lay_0 : decode cX1_lay 0 = .ok (.aload_n 0, 1) := by decide +kernel
theorem dX1_lay_1 : decode cX1_lay 1 = .ok (.iload_n 1, 1) := by decide +kernel
theorem dX1_lay_2 : decode cX1_lay 2 = .ok (.invokevirtual 98, 3) := by decide +kernel
theorem dX1_lay_5 : decode cX1_lay 5 = .ok (.astore_n 2, 1) := by decide +kernel
theorem dX1_lay_6 : decode cX1_lay 6 = .ok (.aload_n 0, 1) := by decide +kernel
theorem dX1_lay_7 : decode cX1_lay 7 = .ok (.getfield 22, 3) := by decide +kernel
theorem dX1_lay_10 : decode cX1_lay 10 = .ok (.ifCond .lt 15, 3) := by decide +kernel
theorem dX1_lay_13 : decode cX1_lay 13 = .ok (.aload_n 0, 1) := by decide +kernel
theorem dX1_lay_14 : decode cX1_lay 14 = .ok (.getfield 22, 3) := by decide +kernel
theorem dX1_lay_17 : decode cX1_lay 17 = .ok (.aload_n 0, 1) := by decide +kernel
theorem dX1_lay_18 : decode cX1_lay 18 = .ok (.getfield 19, 3) := by decide +kernel
theorem dX1_lay_21 : decode cX1_lay 21 = .ok (.arraylength, 1) := by decide +kernel
theorem dX1_lay_22 : decode cX1_lay 22 = .ok (.if_icmp .lt 8, 3) := by decide +kernel
theorem dX1_lay_25 : decode cX1_lay 25 = .ok (.aload_n 0, 1) := by decide +kernel
theorem dX1_lay_26 : decode cX1_lay 26 = .ok (.invokevirtual 182, 3) := by decide +kernel
theorem dX1_lay_29 : decode cX1_lay 29 = .ok (.ireturn, 1) := by decide +kernel
theorem dX1_lay_30 : decode cX1_lay 30 = .ok (.aload_n 0, 1) := by decide +kernel
theorem dX1_lay_31 : decode cX1_lay 31 = .ok (.getfield 19, 3) := by decide +kernel
theorem dX1_lay_34 : decode cX1_lay 34 = .ok (.aload_n 0, 1) := by decide +kernel
theorem dX1_lay_35 : decode cX1_lay 35 = .ok (.getfield 22, 3) := by decide +kernel
theorem dX1_lay_38 : decode cX1_lay 38 = .ok (.aload_n 2, 1) := by decide +kernel
theorem dX1_lay_39 : decode cX1_lay 39 = .ok (.aastore, 1) := by decide +kernel
theorem dX1_lay_40 : decode cX1_lay 40 = .ok (.aload_n 0, 1) := by decide +kernel
theorem dX1_lay_41 : decode cX1_lay 41 = .ok (.dup, 1) := by decide +kernel
theorem dX1_lay_42 : decode cX1_lay 42 = .ok (.getfield 22, 3) := by decide +kernel
theorem dX1_lay_45 : decode cX1_lay 45 = .ok (.iconst 1, 1) := by decide +kernel
theorem dX1_lay_46 : decode cX1_lay 46 = .ok (.iadd, 1) := by decide +kernel
theorem dX1_lay_47 : decode cX1_lay 47 = .ok (.putfield 22, 3) := by decide +kernel
theorem dX1_lay_50 : decode cX1_lay 50 = .ok (.aload_n 0, 1) := by decide +kernel
theorem dX1_lay_51 : decode cX1_lay 51 = .ok (.getfield 22, 3) := by decide +kernel
theorem dX1_lay_54 : decode cX1_lay 54 = .ok (.ireturn, 1) := by decide +kernel
def MX1_lay : MT := ((RX1, cX1_lay, 3, 8, 2, 12, false, some .int), [(22, 5, 3), (19, 5, 2)], [], [], [], [], 0, [(98, 2, 2, 5, 7, 2, 12, yX1_rangeOf, spOf MX1_rangeOf), (182, 2, 1, 5, 1, 0, 0, yX1_refuse, spOf MX1_refuse)])
section
variable {Q : Ot → Hw → Prop} {st : List Value} {w : Hw} {k n p q : Nat} {a b : Int32} {x y : Int64} {u v : Value} {l0 l1 l2 : Option Value}
theorem eX1_lay_0 : WP MX1_lay Q (0, [some (.ref p), l1, l2], st, w, k, n) = WP MX1_lay Q (1, [some (.ref p), l1, l2], .ref p :: st, w, k, n) := Eq.trans (WP_at (M := MX1_lay) rfl dX1_lay_0 (Or.inr rfl)) rfl
theorem eX1_lay_0N : WP MX1_lay Q (0, [some .null, l1, l2], st, w, k, n) = WP MX1_lay Q (1, [some .null, l1, l2], .null :: st, w, k, n) := Eq.trans (WP_at (M := MX1_lay) rfl dX1_lay_0 (Or.inr rfl)) rfl
theorem eX1_lay_1 : WP MX1_lay Q (1, [l0, some (.int a), l2], st, w, k, n) = WP MX1_lay Q (2, [l0, some (.int a), l2], .int a :: st, w, k, n) := Eq.trans (WP_at (M := MX1_lay) rfl dX1_lay_1 (Or.inr rfl)) rfl
theorem eX1_lay_2 {z0 : Int32} : WP MX1_lay Q (2, [l0, l1, l2], .int z0 :: .ref p :: st, w, k, n) = (go w p 5 (fun _ => True) ∧ wt st ≤ 8 ∧ k + 2 ≤ 2 ∧ n + 12 ≤ 12 ∧ WP MX1_rangeOf (kx (fun v w' => WP MX1_lay Q (5, [l0, l1, l2], v.toList ++ st, w', k + 2, n + 12)) (fun E w' => Q (.inr E) w')) (0, [some (.ref p), some (.int z0), none], [], w, 0, 0)) := csV (As := [.int z0]) (rest := st) MX1_rangeOf rfl dX1_lay_2 rfl (by decide) (by decide) (Nat.le_of_ble_eq_true rfl) rfl
theorem eX1_lay_5 : WP MX1_lay Q (5, [l0, l1, l2], .ref p :: st, w, k, n) = WP MX1_lay Q (6, [l0, nl l1, some (.ref p)], st, w, k, n) := by rw [WP_at (M := MX1_lay) rfl dX1_lay_5 (Or.inr rfl)]; exact and_t (Nat.le_of_ble_eq_true rfl)
theorem eX1_lay_5N : WP MX1_lay Q (5, [l0, l1, l2], .null :: st, w, k, n) = WP MX1_lay Q (6, [l0, nl l1, some (.null)], st, w, k, n) := by rw [WP_at (M := MX1_lay) rfl dX1_lay_5 (Or.inr rfl)]; exact and_t (Nat.le_of_ble_eq_true rfl)
theorem eX1_lay_6 : WP MX1_lay Q (6, [some (.ref p), l1, l2], st, w, k, n) = WP MX1_lay Q (7, [some (.ref p), l1, l2], .ref p :: st, w, k, n) := Eq.trans (WP_at (M := MX1_lay) rfl dX1_lay_6 (Or.inr rfl)) rfl
theorem eX1_lay_6N : WP MX1_lay Q (6, [some .null, l1, l2], st, w, k, n) = WP MX1_lay Q (7, [some .null, l1, l2], .null :: st, w, k, n) := Eq.trans (WP_at (M := MX1_lay) rfl dX1_lay_6 (Or.inr rfl)) rfl
theorem eX1_lay_7 : WP MX1_lay Q (7, [l0, l1, l2], .ref p :: st, w, k, n) = go w p 5 fun fs => ∃ v, fs[3]? = some v ∧ WP MX1_lay Q (10, [l0, l1, l2], v :: st, w, k, n) := get_e rfl dX1_lay_7 rfl
theorem eX1_lay_10 : WP MX1_lay Q (10, [l0, l1, l2], .int a :: st, w, k, n) = if a < 0 then WP MX1_lay Q (25, [l0, l1, l2], st, w, k, n) else WP MX1_lay Q (13, [l0, l1, l2], st, w, k, n) := ifc_e (a < 0) rfl dX1_lay_10 rfl (by decide)
theorem eX1_lay_13 : WP MX1_lay Q (13, [some (.ref p), l1, l2], st, w, k, n) = WP MX1_lay Q (14, [some (.ref p), l1, l2], .ref p :: st, w, k, n) := Eq.trans (WP_at (M := MX1_lay) rfl dX1_lay_13 (Or.inr rfl)) rfl
theorem eX1_lay_13N : WP MX1_lay Q (13, [some .null, l1, l2], st, w, k, n) = WP MX1_lay Q (14, [some .null, l1, l2], .null :: st, w, k, n) := Eq.trans (WP_at (M := MX1_lay) rfl dX1_lay_13 (Or.inr rfl)) rfl
theorem eX1_lay_14 : WP MX1_lay Q (14, [l0, l1, l2], .ref p :: st, w, k, n) = go w p 5 fun fs => ∃ v, fs[3]? = some v ∧ WP MX1_lay Q (17, [l0, l1, l2], v :: st, w, k, n) := get_e rfl dX1_lay_14 rfl
theorem eX1_lay_17 : WP MX1_lay Q (17, [some (.ref p), l1, l2], st, w, k, n) = WP MX1_lay Q (18, [some (.ref p), l1, l2], .ref p :: st, w, k, n) := Eq.trans (WP_at (M := MX1_lay) rfl dX1_lay_17 (Or.inr rfl)) rfl
theorem eX1_lay_17N : WP MX1_lay Q (17, [some .null, l1, l2], st, w, k, n) = WP MX1_lay Q (18, [some .null, l1, l2], .null :: st, w, k, n) := Eq.trans (WP_at (M := MX1_lay) rfl dX1_lay_17 (Or.inr rfl)) rfl
theorem eX1_lay_18 : WP MX1_lay Q (18, [l0, l1, l2], .ref p :: st, w, k, n) = go w p 5 fun fs => ∃ v, fs[2]? = some v ∧ WP MX1_lay Q (21, [l0, l1, l2], v :: st, w, k, n) := get_e rfl dX1_lay_18 rfl
theorem eX1_lay_21 : WP MX1_lay Q (21, [l0, l1, l2], .ref p :: st, w, k, n) = ∃ t z, w p = some (.inl (t, z)) ∧ t < 6 ∧ WP MX1_lay Q (22, [l0, l1, l2], .int (Int32.ofNat z.1) :: st, w, k, n) := Eq.trans (WP_at (M := MX1_lay) rfl dX1_lay_21 (Or.inr rfl)) rfl
theorem eX1_lay_22 : WP MX1_lay Q (22, [l0, l1, l2], .int b :: .int a :: st, w, k, n) = if a < b then WP MX1_lay Q (30, [l0, l1, l2], st, w, k, n) else WP MX1_lay Q (25, [l0, l1, l2], st, w, k, n) := icm_e (a < b) rfl dX1_lay_22 rfl (by decide)
theorem eX1_lay_25 : WP MX1_lay Q (25, [some (.ref p), l1, l2], st, w, k, n) = WP MX1_lay Q (26, [some (.ref p), l1, l2], .ref p :: st, w, k, n) := Eq.trans (WP_at (M := MX1_lay) rfl dX1_lay_25 (Or.inr rfl)) rfl
theorem eX1_lay_25N : WP MX1_lay Q (25, [some .null, l1, l2], st, w, k, n) = WP MX1_lay Q (26, [some .null, l1, l2], .null :: st, w, k, n) := Eq.trans (WP_at (M := MX1_lay) rfl dX1_lay_25 (Or.inr rfl)) rfl
theorem eX1_lay_26  : WP MX1_lay Q (26, [l0, l1, l2], .ref p :: st, w, k, n) = (go w p 5 (fun _ => True) ∧ wt st ≤ 8 ∧ k + 0 ≤ 2 ∧ n + 0 ≤ 12 ∧ WP MX1_refuse (kx (fun v w' => WP MX1_lay Q (29, [l0, l1, l2], v.toList ++ st, w', k + 0, n + 0)) (fun E w' => Q (.inr E) w')) (0, [some (.ref p)], [], w, 0, 0)) := csV (As := []) (rest := st) MX1_refuse rfl dX1_lay_26 rfl (by decide) (by decide) (Nat.le_of_ble_eq_true rfl) rfl
theorem eX1_lay_29 : WP MX1_lay Q (29, [l0, l1, l2], [.int a], w, k, n) = (k ≤ 2 ∧ n ≤ 12 ∧ Q (.inl (some (.int a))) w) := (iret_e rfl dX1_lay_29 rfl).trans (and_t rfl)
theorem eX1_lay_30 : WP MX1_lay Q (30, [some (.ref p), l1, l2], st, w, k, n) = WP MX1_lay Q (31, [some (.ref p), l1, l2], .ref p :: st, w, k, n) := Eq.trans (WP_at (M := MX1_lay) rfl dX1_lay_30 (Or.inr rfl)) rfl
theorem eX1_lay_30N : WP MX1_lay Q (30, [some .null, l1, l2], st, w, k, n) = WP MX1_lay Q (31, [some .null, l1, l2], .null :: st, w, k, n) := Eq.trans (WP_at (M := MX1_lay) rfl dX1_lay_30 (Or.inr rfl)) rfl
theorem eX1_lay_31 : WP MX1_lay Q (31, [l0, l1, l2], .ref p :: st, w, k, n) = go w p 5 fun fs => ∃ v, fs[2]? = some v ∧ WP MX1_lay Q (34, [l0, l1, l2], v :: st, w, k, n) := get_e rfl dX1_lay_31 rfl
theorem eX1_lay_34 : WP MX1_lay Q (34, [some (.ref p), l1, l2], st, w, k, n) = WP MX1_lay Q (35, [some (.ref p), l1, l2], .ref p :: st, w, k, n) := Eq.trans (WP_at (M := MX1_lay) rfl dX1_lay_34 (Or.inr rfl)) rfl
theorem eX1_lay_34N : WP MX1_lay Q (34, [some .null, l1, l2], st, w, k, n) = WP MX1_lay Q (35, [some .null, l1, l2], .null :: st, w, k, n) := Eq.trans (WP_at (M := MX1_lay) rfl dX1_lay_34 (Or.inr rfl)) rfl
theorem eX1_lay_35 : WP MX1_lay Q (35, [l0, l1, l2], .ref p :: st, w, k, n) = go w p 5 fun fs => ∃ v, fs[3]? = some v ∧ WP MX1_lay Q (38, [l0, l1, l2], v :: st, w, k, n) := get_e rfl dX1_lay_35 rfl
theorem eX1_lay_38 : WP MX1_lay Q (38, [l0, l1, some (.ref p)], st, w, k, n) = WP MX1_lay Q (39, [l0, l1, some (.ref p)], .ref p :: st, w, k, n) := Eq.trans (WP_at (M := MX1_lay) rfl dX1_lay_38 (Or.inr rfl)) rfl
theorem eX1_lay_38N : WP MX1_lay Q (38, [l0, l1, some .null], st, w, k, n) = WP MX1_lay Q (39, [l0, l1, some .null], .null :: st, w, k, n) := Eq.trans (WP_at (M := MX1_lay) rfl dX1_lay_38 (Or.inr rfl)) rfl
theorem eX1_lay_39N : WP MX1_lay Q (39, [l0, l1, l2], .null :: .int a :: .ref p :: st, w, k, n) = gq w p fun t N f => vp_in a N ∧ (t = 4 ∨ t = 5) ∧ WP MX1_lay Q (40, [l0, l1, l2], st, upw w p (.inl (t, N, .inr (.inr (.inr (.inr (va_up f a.toNatClampNeg none)))))), k, n) := aastN_e rfl dX1_lay_39
theorem eX1_lay_39R : WP MX1_lay Q (39, [l0, l1, l2], .ref q :: .int a :: .ref p :: st, w, k, n) = gq w p fun t N f => vp_in a N ∧ t = 4 ∧ (go w q 4 fun _ => True) ∧ WP MX1_lay Q (40, [l0, l1, l2], st, upw w p (.inl (t, N, .inr (.inr (.inr (.inr (va_up f a.toNatClampNeg (some q))))))), k, n) := aastR_e rfl dX1_lay_39
theorem eX1_lay_40 : WP MX1_lay Q (40, [some (.ref p), l1, l2], st, w, k, n) = WP MX1_lay Q (41, [some (.ref p), l1, l2], .ref p :: st, w, k, n) := Eq.trans (WP_at (M := MX1_lay) rfl dX1_lay_40 (Or.inr rfl)) rfl
theorem eX1_lay_40N : WP MX1_lay Q (40, [some .null, l1, l2], st, w, k, n) = WP MX1_lay Q (41, [some .null, l1, l2], .null :: st, w, k, n) := Eq.trans (WP_at (M := MX1_lay) rfl dX1_lay_40 (Or.inr rfl)) rfl
theorem eX1_lay_41 : WP MX1_lay Q (41, [l0, l1, l2], .int a :: st, w, k, n) = WP MX1_lay Q (42, [l0, l1, l2], .int a :: .int a :: st, w, k, n) := by rw [WP_at (M := MX1_lay) rfl dX1_lay_41 (Or.inr rfl)]; exact and_t rfl
theorem eX1_lay_41R : WP MX1_lay Q (41, [l0, l1, l2], .ref p :: st, w, k, n) = WP MX1_lay Q (42, [l0, l1, l2], .ref p :: .ref p :: st, w, k, n) := by rw [WP_at (M := MX1_lay) rfl dX1_lay_41 (Or.inr rfl)]; exact and_t rfl
theorem eX1_lay_42 : WP MX1_lay Q (42, [l0, l1, l2], .ref p :: st, w, k, n) = go w p 5 fun fs => ∃ v, fs[3]? = some v ∧ WP MX1_lay Q (45, [l0, l1, l2], v :: st, w, k, n) := get_e rfl dX1_lay_42 rfl
theorem eX1_lay_45 : WP MX1_lay Q (45, [l0, l1, l2], st, w, k, n) = WP MX1_lay Q (46, [l0, l1, l2], .int 1 :: st, w, k, n) := iconst_e rfl dX1_lay_45 (by decide)
theorem eX1_lay_46 : WP MX1_lay Q (46, [l0, l1, l2], .int b :: .int a :: st, w, k, n) = WP MX1_lay Q (47, [l0, l1, l2], .int (a + b) :: st, w, k, n) := Eq.trans (WP_at (M := MX1_lay) rfl dX1_lay_46 (Or.inr rfl)) rfl
theorem eX1_lay_47 : WP MX1_lay Q (47, [l0, l1, l2], v :: .ref p :: st, w, k, n) = go w p 5 fun fs => 3 < fs.length ∧ (narrow (.int) v = v ∧ fits (.int) v = true) ∧ WP MX1_lay Q (50, [l0, l1, l2], st, upw w p (.inr (5, fs.set 3 v)), k, n) := put_e (q := (RX1, TX1, 7)) rfl dX1_lay_47 rfl rfl (tyX1_ok 3 (by decide)) (Or.inl rfl)
theorem eX1_lay_50 : WP MX1_lay Q (50, [some (.ref p), l1, l2], st, w, k, n) = WP MX1_lay Q (51, [some (.ref p), l1, l2], .ref p :: st, w, k, n) := Eq.trans (WP_at (M := MX1_lay) rfl dX1_lay_50 (Or.inr rfl)) rfl
theorem eX1_lay_50N : WP MX1_lay Q (50, [some .null, l1, l2], st, w, k, n) = WP MX1_lay Q (51, [some .null, l1, l2], .null :: st, w, k, n) := Eq.trans (WP_at (M := MX1_lay) rfl dX1_lay_50 (Or.inr rfl)) rfl
theorem eX1_lay_51 : WP MX1_lay Q (51, [l0, l1, l2], .ref p :: st, w, k, n) = go w p 5 fun fs => ∃ v, fs[3]? = some v ∧ WP MX1_lay Q (54, [l0, l1, l2], v :: st, w, k, n) := get_e rfl dX1_lay_51 rfl
theorem eX1_lay_54 : WP MX1_lay Q (54, [l0, l1, l2], [.int a], w, k, n) = (k ≤ 2 ∧ n ≤ 12 ∧ Q (.inl (some (.int a))) w) := (iret_e rfl dX1_lay_54 rfl).trans (and_t rfl)
end
theorem vMX1_lay {l : Launch} (hl : l.stackTraces = false) (G : GT) : vM l G MX1_lay := ⟨fun i c j h => lookup_all (l := MX1_lay.fld) (P := fun i e => vFld RX1 i e.1 e.2) (all_c (vF_RX1_22) (all_c (vF_RX1_19) (all_n))) i (c, j) h, fun i c fs h => lookup_all (l := MX1_lay.new) (P := fun i e => vNew RX1 i e.1 e.2) (all_n) i (c, fs) h, lookup_all (l := MX1_lay.anew) (P := fun i e => vANew RX1 i e) (all_n), lookup_all (l := MX1_lay.lng) (P := fun i e => Jvm.Cond.constantLong RX1 i e ∈ WS) (all_n), lookup_all (l := MX1_lay.thr) (P := fun i e => vThr RX1 cX1_lay i e) (all_n), fun h => absurd rfl h, lookup_all (l := MX1_lay.cal) (P := fun i e => vCal l G RX1 i e) (all_c (⟨cX1_rangeOf, 3, some (.object "Rangecard$Range"), fun y hy => by subst hy; exact ⟨by decide, wk_877, okX1_rangeOf hl, wk_59, ⟨by decide, by decide⟩, ⟨by decide +kernel, wk_874, wk_876, wk_31, (RX1, TX1, 7), rfl, rfl⟩⟩⟩) (all_c (⟨cX1_refuse, 1, some .int, fun y hy => by subst hy; exact ⟨by decide, wk_827, okX1_refuse hl, wk_59, ⟨by decide, by decide⟩, ⟨by decide +kernel, wk_824, wk_826, wk_30, (RX1, TX1, 7), rfl, rfl⟩⟩⟩) (all_n)))⟩
theorem okX1_lay {l : Launch} (hl : l.stackTraces = false) {G : GT} : ∀ (args : List Value) (w : Hw) (S : Ot → Hw → Prop), spOf MX1_lay args w S → CX l G yX1_lay (.code yX1_lay cX1_lay 3 (some .int)) 8 2 12 args w S := CX_sp (M := MX1_lay) (y := yX1_lay) hl (by decide) rfl (vMX1_lay hl G) (fun h => by cases h)
/-! Rangecard.seek(IZ)I -/
theorem dX1_seek_0 : decode cX1_seek 0 = .ok (.aload_n 0, 1) := by decide +kernel
theorem dX1_seek_1 : decode cX1_seek 1 = .ok (.iload_n 1, 1) := by decide +kernel
theorem dX1_seek_2 : decode cX1_seek 2 = .ok (.invokevirtual 98, 3) := by decide +kernel
theorem dX1_seek_5 : decode cX1_seek 5 = .ok (.astore_n 3, 1) := by decide +kernel
theorem dX1_seek_6 : decode cX1_seek 6 = .ok (.iload_n 2, 1) := by decide +kernel
theorem dX1_seek_7 : decode cX1_seek 7 = .ok (.ifCond .eq 11, 3) := by decide +kernel
theorem dX1_seek_10 : decode cX1_seek 10 = .ok (.aload_n 0, 1) := by decide +kernel
theorem dX1_seek_11 : decode cX1_seek 11 = .ok (.aload_n 3, 1) := by decide +kernel
theorem dX1_seek_12 : decode cX1_seek 12 = .ok (.invokevirtual 186, 3) := by decide +kernel
theorem dX1_seek_15 : decode cX1_seek 15 = .ok (.goto 8, 3) := by decide +kernel
theorem dX1_seek_18 : decode cX1_seek 18 = .ok (.aload_n 0, 1) := by decide +kernel
theorem dX1_seek_19 : decode cX1_seek 19 = .ok (.aload_n 3, 1) := by decide +kernel
theorem dX1_seek_20 : decode cX1_seek 20 = .ok (.invokevirtual 189, 3) := by decide +kernel
theorem dX1_seek_23 : decode cX1_seek 23 = .ok (.ireturn, 1) := by decide +kernel
def MX1_seek : MT := ((RX1, cX1_seek, 4, 8, 2, 12, false, some .int), [], [], [], [], [], 0, [(98, 2, 2, 5, 7, 2, 12, yX1_rangeOf, spOf MX1_rangeOf), (186, 2, 2, 5, 2, 0, 0, yX1_lastPlaceOf, spOf MX1_lastPlaceOf), (189, 2, 2, 5, 2, 0, 0, yX1_firstPlaceOf, spOf MX1_firstPlaceOf)])
section
variable {Q : Ot → Hw → Prop} {st : List Value} {w : Hw} {k n p q : Nat} {a b : Int32} {x y : Int64} {u v : Value} {l0 l1 l2 l3 : Option Value}
theorem eX1_seek_0 : WP MX1_seek Q (0, [some (.ref p), l1, l2, l3], st, w, k, n) = WP MX1_seek Q (1, [some (.ref p), l1, l2, l3], .ref p :: st, w, k, n) := Eq.trans (WP_at (M := MX1_seek) rfl dX1_seek_0 (Or.inr rfl)) rfl
theorem eX1_seek_0N : WP MX1_seek Q (0, [some .null, l1, l2, l3], st, w, k, n) = WP MX1_seek Q (1, [some .null, l1, l2, l3], .null :: st, w, k, n) := Eq.trans (WP_at (M := MX1_seek) rfl dX1_seek_0 (Or.inr rfl)) rfl
theorem eX1_seek_1 : WP MX1_seek Q (1, [l0, some (.int a), l2, l3], st, w, k, n) = WP MX1_seek Q (2, [l0, some (.int a), l2, l3], .int a :: st, w, k, n) := Eq.trans (WP_at (M := MX1_seek) rfl dX1_seek_1 (Or.inr rfl)) rfl
theorem eX1_seek_2 {z0 : Int32} : WP MX1_seek Q (2, [l0, l1, l2, l3], .int z0 :: .ref p :: st, w, k, n) = (go w p 5 (fun _ => True) ∧ wt st ≤ 8 ∧ k + 2 ≤ 2 ∧ n + 12 ≤ 12 ∧ WP MX1_rangeOf (kx (fun v w' => WP MX1_seek Q (5, [l0, l1, l2, l3], v.toList ++ st, w', k + 2, n + 12)) (fun E w' => Q (.inr E) w')) (0, [some (.ref p), some (.int z0), none], [], w, 0, 0)) := csV (As := [.int z0]) (rest := st) MX1_rangeOf rfl dX1_seek_2 rfl (by decide) (by decide) (Nat.le_of_ble_eq_true rfl) rfl
theorem eX1_seek_5 : WP MX1_seek Q (5, [l0, l1, l2, l3], .ref p :: st, w, k, n) = WP MX1_seek Q (6, [l0, l1, nl l2, some (.ref p)], st, w, k, n) := by rw [WP_at (M := MX1_seek) rfl dX1_seek_5 (Or.inr rfl)]; exact and_t (Nat.le_of_ble_eq_true rfl)
theorem eX1_seek_5N : WP MX1_seek Q (5, [l0, l1, l2, l3], .null :: st, w, k, n) = WP MX1_seek Q (6, [l0, l1, nl l2, some (.null)], st, w, k, n) := by rw [WP_at (M := MX1_seek) rfl dX1_seek_5 (Or.inr rfl)]; exact and_t (Nat.le_of_ble_eq_true rfl)
theorem eX1_seek_6 : WP MX1_seek Q (6, [l0, l1, some (.int a), l3], st, w, k, n) = WP MX1_seek Q (7, [l0, l1, some (.int a), l3], .int a :: st, w, k, n) := Eq.trans (WP_at (M := MX1_seek) rfl dX1_seek_6 (Or.inr rfl)) rfl
theorem eX1_seek_7 : WP MX1_seek Q (7, [l0, l1, l2, l3], .int a :: st, w, k, n) = if a = 0 then WP MX1_seek Q (18, [l0, l1, l2, l3], st, w, k, n) else WP MX1_seek Q (10, [l0, l1, l2, l3], st, w, k, n) := ifc_e (a = 0) rfl dX1_seek_7 rfl (by decide)
theorem eX1_seek_10 : WP MX1_seek Q (10, [some (.ref p), l1, l2, l3], st, w, k, n) = WP MX1_seek Q (11, [some (.ref p), l1, l2, l3], .ref p :: st, w, k, n) := Eq.trans (WP_at (M := MX1_seek) rfl dX1_seek_10 (Or.inr rfl)) rfl
theorem eX1_seek_10N : WP MX1_seek Q (10, [some .null, l1, l2, l3], st, w, k, n) = WP MX1_seek Q (11, [some .null, l1, l2, l3], .null :: st, w, k, n) := Eq.trans (WP_at (M := MX1_seek) rfl dX1_seek_10 (Or.inr rfl)) rfl
theorem eX1_seek_11 : WP MX1_seek Q (11, [l0, l1, l2, some (.ref p)], st, w, k, n) = WP MX1_seek Q (12, [l0, l1, l2, some (.ref p)], .ref p :: st, w, k, n) := Eq.trans (WP_at (M := MX1_seek) rfl dX1_seek_11 (Or.inr rfl)) rfl
theorem eX1_seek_11N : WP MX1_seek Q (11, [l0, l1, l2, some .null], st, w, k, n) = WP MX1_seek Q (12, [l0, l1, l2, some .null], .null :: st, w, k, n) := Eq.trans (WP_at (M := MX1_seek) rfl dX1_seek_11 (Or.inr rfl)) rfl
theorem eX1_seek_12R {z0 : Nat} : WP MX1_seek Q (12, [l0, l1, l2, l3], .ref z0 :: .ref p :: st, w, k, n) = (go w p 5 (fun _ => True) ∧ wt st ≤ 8 ∧ k + 0 ≤ 2 ∧ n + 0 ≤ 12 ∧ WP MX1_lastPlaceOf (kx (fun v w' => WP MX1_seek Q (15, [l0, l1, l2, l3], v.toList ++ st, w', k + 0, n + 0)) (fun E w' => Q (.inr E) w')) (0, [some (.ref p), some (.ref z0), none], [], w, 0, 0)) := csV (As := [.ref z0]) (rest := st) MX1_lastPlaceOf rfl dX1_seek_12 rfl (by decide) (by decide) (Nat.le_of_ble_eq_true rfl) rfl
theorem eX1_seek_12N  : WP MX1_seek Q (12, [l0, l1, l2, l3], .null :: .ref p :: st, w, k, n) = (go w p 5 (fun _ => True) ∧ wt st ≤ 8 ∧ k + 0 ≤ 2 ∧ n + 0 ≤ 12 ∧ WP MX1_lastPlaceOf (kx (fun v w' => WP MX1_seek Q (15, [l0, l1, l2, l3], v.toList ++ st, w', k + 0, n + 0)) (fun E w' => Q (.inr E) w')) (0, [some (.ref p), some .null, none], [], w, 0, 0)) := csV (As := [.null]) (rest := st) MX1_lastPlaceOf rfl dX1_seek_12 rfl (by decide) (by decide) (Nat.le_of_ble_eq_true rfl) rfl
theorem eX1_seek_15 : WP MX1_seek Q (15, [l0, l1, l2, l3], st, w, k, n) = WP MX1_seek Q (23, [l0, l1, l2, l3], st, w, k, n) := goto_e rfl dX1_seek_15 (by decide)
theorem eX1_seek_18 : WP MX1_seek Q (18, [some (.ref p), l1, l2, l3], st, w, k, n) = WP MX1_seek Q (19, [some (.ref p), l1, l2, l3], .ref p :: st, w, k, n) := Eq.trans (WP_at (M := MX1_seek) rfl dX1_seek_18 (Or.inr rfl)) rfl
theorem eX1_seek_18N : WP MX1_seek Q (18, [some .null, l1, l2, l3], st, w, k, n) = WP MX1_seek Q (19, [some .null, l1, l2, l3], .null :: st, w, k, n) := Eq.trans (WP_at (M := MX1_seek) rfl dX1_seek_18 (Or.inr rfl)) rfl
theorem eX1_seek_19 : WP MX1_seek Q (19, [l0, l1, l2, some (.ref p)], st, w, k, n) = WP MX1_seek Q (20, [l0, l1, l2, some (.ref p)], .ref p :: st, w, k, n) := Eq.trans (WP_at (M := MX1_seek) rfl dX1_seek_19 (Or.inr rfl)) rfl
theorem eX1_seek_19N : WP MX1_seek Q (19, [l0, l1, l2, some .null], st, w, k, n) = WP MX1_seek Q (20, [l0, l1, l2, some .null], .null :: st, w, k, n) := Eq.trans (WP_at (M := MX1_seek) rfl dX1_seek_19 (Or.inr rfl)) rfl
theorem eX1_seek_20R {z0 : Nat} : WP MX1_seek Q (20, [l0, l1, l2, l3], .ref z0 :: .ref p :: st, w, k, n) = (go w p 5 (fun _ => True) ∧ wt st ≤ 8 ∧ k + 0 ≤ 2 ∧ n + 0 ≤ 12 ∧ WP MX1_firstPlaceOf (kx (fun v w' => WP MX1_seek Q (23, [l0, l1, l2, l3], v.toList ++ st, w', k + 0, n + 0)) (fun E w' => Q (.inr E) w')) (0, [some (.ref p), some (.ref z0), none], [], w, 0, 0)) := csV (As := [.ref z0]) (rest := st) MX1_firstPlaceOf rfl dX1_seek_20 rfl (by decide) (by decide) (Nat.le_of_ble_eq_true rfl) rfl
theorem eX1_seek_20N  : WP MX1_seek Q (20, [l0, l1, l2, l3], .null :: .ref p :: st, w, k, n) = (go w p 5 (fun _ => True) ∧ wt st ≤ 8 ∧ k + 0 ≤ 2 ∧ n + 0 ≤ 12 ∧ WP MX1_firstPlaceOf (kx (fun v w' => WP MX1_seek Q (23, [l0, l1, l2, l3], v.toList ++ st, w', k + 0, n + 0)) (fun E w' => Q (.inr E) w')) (0, [some (.ref p), some .null, none], [], w, 0, 0)) := csV (As := [.null]) (rest := st) MX1_firstPlaceOf rfl dX1_seek_20 rfl (by decide) (by decide) (Nat.le_of_ble_eq_true rfl) rfl
theorem eX1_seek_23 : WP MX1_seek Q (23, [l0, l1, l2, l3], [.int a], w, k, n) = (k ≤ 2 ∧ n ≤ 12 ∧ Q (.inl (some (.int a))) w) := (iret_e rfl dX1_seek_23 rfl).trans (and_t rfl)
end
theorem vMX1_seek {l : Launch} (hl : l.stackTraces = false) (G : GT) : vM l G MX1_seek := ⟨fun i c j h => lookup_all (l := MX1_seek.fld) (P := fun i e => vFld RX1 i e.1 e.2) (all_n) i (c, j) h, fun i c fs h => lookup_all (l := MX1_seek.new) (P := fun i e => vNew RX1 i e.1 e.2) (all_n) i (c, fs) h, lookup_all (l := MX1_seek.anew) (P := fun i e => vANew RX1 i e) (all_n), lookup_all (l := MX1_seek.lng) (P := fun i e => Jvm.Cond.constantLong RX1 i e ∈ WS) (all_n), lookup_all (l := MX1_seek.thr) (P := fun i e => vThr RX1 cX1_seek i e) (all_n), fun h => absurd rfl h, lookup_all (l := MX1_seek.cal) (P := fun i e => vCal l G RX1 i e) (all_c (⟨cX1_rangeOf, 3, some (.object "Rangecard$Range"), fun y hy => by subst hy; exact ⟨by decide, wk_877, okX1_rangeOf hl, wk_59, ⟨by decide, by decide⟩, ⟨by decide +kernel, wk_874, wk_876, wk_31, (RX1, TX1, 7), rfl, rfl⟩⟩⟩) (all_c (⟨cX1_lastPlaceOf, 3, some .int, fun y hy => by subst hy; exact ⟨by decide, wk_304, okX1_lastPlaceOf hl, wk_59, ⟨by decide, by decide⟩, ⟨by decide +kernel, wk_301, wk_303, wk_21, (RX1, TX1, 7), rfl, rfl⟩⟩⟩) (all_c (⟨cX1_firstPlaceOf, 3, some .int, fun y hy => by subst hy; exact ⟨by decide, wk_243, okX1_firstPlaceOf hl, wk_59, ⟨by decide, by decide⟩, ⟨by decide +kernel, wk_240, wk_242, wk_12, (RX1, TX1, 7), rfl, rfl⟩⟩⟩) (all_n))))⟩
theorem okX1_seek {l : Launch} (hl : l.stackTraces = false) {G : GT} : ∀ (args : List Value) (w : Hw) (S : Ot → Hw → Prop), spOf MX1_seek args w S → CX l G yX1_seek (.code yX1_seek cX1_seek 4 (some .int)) 8 2 12 args w S := CX_sp (M := MX1_seek) (y := yX1_seek) hl (by decide) rfl (vMX1_seek hl G) (fun h => by cases h)
/-! Rangecard.howOften(I)I -/
theorem dX1_howOften_0 : decode cX1_howOften 0 = .ok (.aload_n 0, 1) := by decide +kernel
theorem dX1_howOften_1 : decode cX1_howOften 1 = .ok (.aload_n 0, 1) := by decide +kernel
theorem dX1_howOften_2 : decode cX1_howOften 2 = .ok (.iload_n 1, 1) := by decide +kernel
theorem dX1_howOften_3 : decode cX1_howOften 3 = .ok (.invokevirtual 98, 3) := by decide +kernel
theorem dX1_howOften_6 : decode cX1_howOften 6 = .ok (.invokevirtual 192, 3) := by decide +kernel
theorem dX1_howOften_9 : decode cX1_howOften 9 = .ok (.ireturn, 1) := by decide +kernel
def MX1_howOften : MT := ((RX1, cX1_howOften, 2, 8, 2, 12, false, some .int), [], [], [], [], [], 0, [(98, 2, 2, 5, 7, 2, 12, yX1_rangeOf, spOf MX1_rangeOf), (192, 2, 2, 5, 2, 0, 0, yX1_timesLaid, spOf MX1_timesLaid)])
section
variable {Q : Ot → Hw → Prop} {st : List Value} {w : Hw} {k n p q : Nat} {a b : Int32} {x y : Int64} {u v : Value} {l0 l1 : Option Value}
theorem eX1_howOften_0 : WP MX1_howOften Q (0, [some (.ref p), l1], st, w, k, n) = WP MX1_howOften Q (1, [some (.ref p), l1], .ref p :: st, w, k, n) := Eq.trans (WP_at (M := MX1_howOften) rfl dX1_howOften_0 (Or.inr rfl)) rfl
theorem eX1_howOften_0N : WP MX1_howOften Q (0, [some .null, l1], st, w, k, n) = WP MX1_howOften Q (1, [some .null, l1], .null :: st, w, k, n) := Eq.trans (WP_at (M := MX1_howOften) rfl dX1_howOften_0 (Or.inr rfl)) rfl
theorem eX1_howOften_1 : WP MX1_howOften Q (1, [some (.ref p), l1], st, w, k, n) = WP MX1_howOften Q (2, [some (.ref p), l1], .ref p :: st, w, k, n) := Eq.trans (WP_at (M := MX1_howOften) rfl dX1_howOften_1 (Or.inr rfl)) rfl
theorem eX1_howOften_1N : WP MX1_howOften Q (1, [some .null, l1], st, w, k, n) = WP MX1_howOften Q (2, [some .null, l1], .null :: st, w, k, n) := Eq.trans (WP_at (M := MX1_howOften) rfl dX1_howOften_1 (Or.inr rfl)) rfl
theorem eX1_howOften_2 : WP MX1_howOften Q (2, [l0, some (.int a)], st, w, k, n) = WP MX1_howOften Q (3, [l0, some (.int a)], .int a :: st, w, k, n) := Eq.trans (WP_at (M := MX1_howOften) rfl dX1_howOften_2 (Or.inr rfl)) rfl
theorem eX1_howOften_3 {z0 : Int32} : WP MX1_howOften Q (3, [l0, l1], .int z0 :: .ref p :: st, w, k, n) = (go w p 5 (fun _ => True) ∧ wt st ≤ 8 ∧ k + 2 ≤ 2 ∧ n + 12 ≤ 12 ∧ WP MX1_rangeOf (kx (fun v w' => WP MX1_howOften Q (6, [l0, l1], v.toList ++ st, w', k + 2, n + 12)) (fun E w' => Q (.inr E) w')) (0, [some (.ref p), some (.int z0), none], [], w, 0, 0)) := csV (As := [.int z0]) (rest := st) MX1_rangeOf rfl dX1_howOften_3 rfl (by decide) (by decide) (Nat.le_of_ble_eq_true rfl) rfl
theorem eX1_howOften_6R {z0 : Nat} : WP MX1_howOften Q (6, [l0, l1], .ref z0 :: .ref p :: st, w, k, n) = (go w p 5 (fun _ => True) ∧ wt st ≤ 8 ∧ k + 0 ≤ 2 ∧ n + 0 ≤ 12 ∧ WP MX1_timesLaid (kx (fun v w' => WP MX1_howOften Q (9, [l0, l1], v.toList ++ st, w', k + 0, n + 0)) (fun E w' => Q (.inr E) w')) (0, [some (.ref p), some (.ref z0), none, none], [], w, 0, 0)) := csV (As := [.ref z0]) (rest := st) MX1_timesLaid rfl dX1_howOften_6 rfl (by decide) (by decide) (Nat.le_of_ble_eq_true rfl) rfl
theorem eX1_howOften_6N  : WP MX1_howOften Q (6, [l0, l1], .null :: .ref p :: st, w, k, n) = (go w p 5 (fun _ => True) ∧ wt st ≤ 8 ∧ k + 0 ≤ 2 ∧ n + 0 ≤ 12 ∧ WP MX1_timesLaid (kx (fun v w' => WP MX1_howOften Q (9, [l0, l1], v.toList ++ st, w', k + 0, n + 0)) (fun E w' => Q (.inr E) w')) (0, [some (.ref p), some .null, none, none], [], w, 0, 0)) := csV (As := [.null]) (rest := st) MX1_timesLaid rfl dX1_howOften_6 rfl (by decide) (by decide) (Nat.le_of_ble_eq_true rfl) rfl
theorem eX1_howOften_9 : WP MX1_howOften Q (9, [l0, l1], [.int a], w, k, n) = (k ≤ 2 ∧ n ≤ 12 ∧ Q (.inl (some (.int a))) w) := (iret_e rfl dX1_howOften_9 rfl).trans (and_t rfl)
end
theorem vMX1_howOften {l : Launch} (hl : l.stackTraces = false) (G : GT) : vM l G MX1_howOften := ⟨fun i c j h => lookup_all (l := MX1_howOften.fld) (P := fun i e => vFld RX1 i e.1 e.2) (all_n) i (c, j) h, fun i c fs h => lookup_all (l := MX1_howOften.new) (P := fun i e => vNew RX1 i e.1 e.2) (all_n) i (c, fs) h, lookup_all (l := MX1_howOften.anew) (P := fun i e => vANew RX1 i e) (all_n), lookup_all (l := MX1_howOften.lng) (P := fun i e => Jvm.Cond.constantLong RX1 i e ∈ WS) (all_n), lookup_all (l := MX1_howOften.thr) (P := fun i e => vThr RX1 cX1_howOften i e) (all_n), fun h => absurd rfl h, lookup_all (l := MX1_howOften.cal) (P := fun i e => vCal l G RX1 i e) (all_c (⟨cX1_rangeOf, 3, some (.object "Rangecard$Range"), fun y hy => by subst hy; exact ⟨by decide, wk_877, okX1_rangeOf hl, wk_59, ⟨by decide, by decide⟩, ⟨by decide +kernel, wk_874, wk_876, wk_31, (RX1, TX1, 7), rfl, rfl⟩⟩⟩) (all_c (⟨cX1_timesLaid, 4, some .int, fun y hy => by subst hy; exact ⟨by decide, wk_308, okX1_timesLaid hl, wk_59, ⟨by decide, by decide⟩, ⟨by decide +kernel, wk_305, wk_307, wk_22, (RX1, TX1, 7), rfl, rfl⟩⟩⟩) (all_n)))⟩
theorem okX1_howOften {l : Launch} (hl : l.stackTraces = false) {G : GT} : ∀ (args : List Value) (w : Hw) (S : Ot → Hw → Prop), spOf MX1_howOften args w S → CX l G yX1_howOften (.code yX1_howOften cX1_howOften 2 (some .int)) 8 2 12 args w S := CX_sp (M := MX1_howOften) (y := yX1_howOften) hl (by decide) rfl (vMX1_howOften hl G) (fun h => by cases h)
/-! Rangecard.lift(I)I -/
theorem dX1_lift_0 : decode cX1_lift 0 = .ok (.aload_n 0, 1) := by decide +kernel
theorem dX1_lift_1 : decode cX1_lift 1 = .ok (.aload_n 0, 1) := by decide +kernel
theorem dX1_lift_2 : decode cX1_lift 2 = .ok (.iload_n 1, 1) := by decide +kernel
theorem dX1_lift_3 : decode cX1_lift 3 = .ok (.invokevirtual 98, 3) := by decide +kernel
theorem dX1_lift_6 : decode cX1_lift 6 = .ok (.invokevirtual 189, 3) := by decide +kernel
theorem dX1_lift_9 : decode cX1_lift 9 = .ok (.istore_n 2, 1) := by decide +kernel
theorem dX1_lift_10 : decode cX1_lift 10 = .ok (.iload_n 2, 1) := by decide +kernel
theorem dX1_lift_11 : decode cX1_lift 11 = .ok (.iconst (-1), 1) := by decide +kernel
theorem dX1_lift_12 : decode cX1_lift 12 = .ok (.if_icmp .ne 5, 3) := by decide +kernel
theorem dX1_lift_15 : decode cX1_lift 15 = .ok (.iconst 0, 1) := by decide +kernel
theorem dX1_lift_16 : decode cX1_lift 16 = .ok (.ireturn, 1) := by decide +kernel
theorem dX1_lift_17 : decode cX1_lift 17 = .ok (.aload_n 0, 1) := by decide +kernel
theorem dX1_lift_18 : decode cX1_lift 18 = .ok (.iload_n 2, 1) := by decide +kernel
theorem dX1_lift_19 : decode cX1_lift 19 = .ok (.invokevirtual 195, 3) := by decide +kernel
theorem dX1_lift_22 : decode cX1_lift 22 = .ok (.iconst 1, 1) := by decide +kernel
theorem dX1_lift_23 : decode cX1_lift 23 = .ok (.ireturn, 1) := by decide +kernel
def MX1_lift : MT := ((RX1, cX1_lift, 3, 8, 2, 12, false, some .int), [], [], [], [], [], 0, [(98, 2, 2, 5, 7, 2, 12, yX1_rangeOf, spOf MX1_rangeOf), (189, 2, 2, 5, 2, 0, 0, yX1_firstPlaceOf, spOf MX1_firstPlaceOf), (195, 2, 2, 5, 1, 0, 0, yX1_closeGap, spOf MX1_closeGap)])
section
variable {Q : Ot → Hw → Prop} {st : List Value} {w : Hw} {k n p q : Nat} {a b : Int32} {x y : Int64} {u v : Value} {l0 l1 l2 : Option Value}
theorem eX1_lift_0 : WP MX1_lift Q (0, [some (.ref p), l1, l2], st, w, k, n) = WP MX1_lift Q (1, [some (.ref p), l1, l2], .ref p :: st, w, k, n) := Eq.trans (WP_at (M := MX1_lift) rfl dX1_lift_0 (Or.inr rfl)) rfl
theorem eX1_lift_0N : WP MX1_lift Q (0, [some .null, l1, l2], st, w, k, n) = WP MX1_lift Q (1, [some .null, l1, l2], .null :: st, w, k, n) := Eq.trans (WP_at (M := MX1_lift) rfl dX1_lift_0 (Or.inr rfl)) rfl
theorem eX1_lift_1 : WP MX1_lift Q (1, [some (.ref p), l1, l2], st, w, k, n) = WP MX1_lift Q (2, [some (.ref p), l1, l2], .ref p :: st, w, k, n) := Eq.trans (WP_at (M := MX1_lift) rfl dX1_lift_1 (Or.inr rfl)) rfl
theorem eX1_lift_1N : WP MX1_lift Q (1, [some .null, l1, l2], st, w, k, n) = WP MX1_lift Q (2, [some .null, l1, l2], .null :: st, w, k, n) := Eq.trans (WP_at (M := MX1_lift) rfl dX1_lift_1 (Or.inr rfl)) rfl
theorem eX1_lift_2 : WP MX1_lift Q (2, [l0, some (.int a), l2], st, w, k, n) = WP MX1_lift Q (3, [l0, some (.int a), l2], .int a :: st, w, k, n) := Eq.trans (WP_at (M := MX1_lift) rfl dX1_lift_2 (Or.inr rfl)) rfl
theorem eX1_lift_3 {z0 : Int32} : WP MX1_lift Q (3, [l0, l1, l2], .int z0 :: .ref p :: st, w, k, n) = (go w p 5 (fun _ => True) ∧ wt st ≤ 8 ∧ k + 2 ≤ 2 ∧ n + 12 ≤ 12 ∧ WP MX1_rangeOf (kx (fun v w' => WP MX1_lift Q (6, [l0, l1, l2], v.toList ++ st, w', k + 2, n + 12)) (fun E w' => Q (.inr E) w')) (0, [some (.ref p), some (.int z0), none], [], w, 0, 0)) := csV (As := [.int z0]) (rest := st) MX1_rangeOf rfl dX1_lift_3 rfl (by decide) (by decide) (Nat.le_of_ble_eq_true rfl) rfl
theorem eX1_lift_6R {z0 : Nat} : WP MX1_lift Q (6, [l0, l1, l2], .ref z0 :: .ref p :: st, w, k, n) = (go w p 5 (fun _ => True) ∧ wt st ≤ 8 ∧ k + 0 ≤ 2 ∧ n + 0 ≤ 12 ∧ WP MX1_firstPlaceOf (kx (fun v w' => WP MX1_lift Q (9, [l0, l1, l2], v.toList ++ st, w', k + 0, n + 0)) (fun E w' => Q (.inr E) w')) (0, [some (.ref p), some (.ref z0), none], [], w, 0, 0)) := csV (As := [.ref z0]) (rest := st) MX1_firstPlaceOf rfl dX1_lift_6 rfl (by decide) (by decide) (Nat.le_of_ble_eq_true rfl) rfl
theorem eX1_lift_6N  : WP MX1_lift Q (6, [l0, l1, l2], .null :: .ref p :: st, w, k, n) = (go w p 5 (fun _ => True) ∧ wt st ≤ 8 ∧ k + 0 ≤ 2 ∧ n + 0 ≤ 12 ∧ WP MX1_firstPlaceOf (kx (fun v w' => WP MX1_lift Q (9, [l0, l1, l2], v.toList ++ st, w', k + 0, n + 0)) (fun E w' => Q (.inr E) w')) (0, [some (.ref p), some .null, none], [], w, 0, 0)) := csV (As := [.null]) (rest := st) MX1_firstPlaceOf rfl dX1_lift_6 rfl (by decide) (by decide) (Nat.le_of_ble_eq_true rfl) rfl
theorem eX1_lift_9 : WP MX1_lift Q (9, [l0, l1, l2], .int a :: st, w, k, n) = WP MX1_lift Q (10, [l0, nl l1, some (.int a)], st, w, k, n) := by rw [WP_at (M := MX1_lift) rfl dX1_lift_9 (Or.inr rfl)]; exact and_t (Nat.le_of_ble_eq_true rfl)
theorem eX1_lift_10 : WP MX1_lift Q (10, [l0, l1, some (.int a)], st, w, k, n) = WP MX1_lift Q (11, [l0, l1, some (.int a)], .int a :: st, w, k, n) := Eq.trans (WP_at (M := MX1_lift) rfl dX1_lift_10 (Or.inr rfl)) rfl
theorem eX1_lift_11 : WP MX1_lift Q (11, [l0, l1, l2], st, w, k, n) = WP MX1_lift Q (12, [l0, l1, l2], .int (-1) :: st, w, k, n) := iconst_e rfl dX1_lift_11 (by decide)
theorem eX1_lift_12 : WP MX1_lift Q (12, [l0, l1, l2], .int b :: .int a :: st, w, k, n) = if a = b then WP MX1_lift Q (15, [l0, l1, l2], st, w, k, n) else WP MX1_lift Q (17, [l0, l1, l2], st, w, k, n) := icmn_e (a = b) rfl dX1_lift_12 rfl (by decide)
theorem eX1_lift_15 : WP MX1_lift Q (15, [l0, l1, l2], st, w, k, n) = WP MX1_lift Q (16, [l0, l1, l2], .int 0 :: st, w, k, n) := iconst_e rfl dX1_lift_15 (by decide)
theorem eX1_lift_16 : WP MX1_lift Q (16, [l0, l1, l2], [.int a], w, k, n) = (k ≤ 2 ∧ n ≤ 12 ∧ Q (.inl (some (.int a))) w) := (iret_e rfl dX1_lift_16 rfl).trans (and_t rfl)
theorem eX1_lift_17 : WP MX1_lift Q (17, [some (.ref p), l1, l2], st, w, k, n) = WP MX1_lift Q (18, [some (.ref p), l1, l2], .ref p :: st, w, k, n) := Eq.trans (WP_at (M := MX1_lift) rfl dX1_lift_17 (Or.inr rfl)) rfl
theorem eX1_lift_17N : WP MX1_lift Q (17, [some .null, l1, l2], st, w, k, n) = WP MX1_lift Q (18, [some .null, l1, l2], .null :: st, w, k, n) := Eq.trans (WP_at (M := MX1_lift) rfl dX1_lift_17 (Or.inr rfl)) rfl
theorem eX1_lift_18 : WP MX1_lift Q (18, [l0, l1, some (.int a)], st, w, k, n) = WP MX1_lift Q (19, [l0, l1, some (.int a)], .int a :: st, w, k, n) := Eq.trans (WP_at (M := MX1_lift) rfl dX1_lift_18 (Or.inr rfl)) rfl
theorem eX1_lift_19 {z0 : Int32} : WP MX1_lift Q (19, [l0, l1, l2], .int z0 :: .ref p :: st, w, k, n) = (go w p 5 (fun _ => True) ∧ wt st ≤ 8 ∧ k + 0 ≤ 2 ∧ n + 0 ≤ 12 ∧ WP MX1_closeGap (kx (fun v w' => WP MX1_lift Q (22, [l0, l1, l2], v.toList ++ st, w', k + 0, n + 0)) (fun E w' => Q (.inr E) w')) (0, [some (.ref p), some (.int z0), none], [], w, 0, 0)) := csV (As := [.int z0]) (rest := st) MX1_closeGap rfl dX1_lift_19 rfl (by decide) (by decide) (Nat.le_of_ble_eq_true rfl) rfl
theorem eX1_lift_22 : WP MX1_lift Q (22, [l0, l1, l2], st, w, k, n) = WP MX1_lift Q (23, [l0, l1, l2], .int 1 :: st, w, k, n) := iconst_e rfl dX1_lift_22 (by decide)
theorem eX1_lift_23 : WP MX1_lift Q (23, [l0, l1, l2], [.int a], w, k, n) = (k ≤ 2 ∧ n ≤ 12 ∧ Q (.inl (some (.int a))) w) := (iret_e rfl dX1_lift_23 rfl).trans (and_t rfl)
end
theorem wk_1087 : (.code yX1_closeGap cX1_closeGap 3 (none) : Jvm.Cond) ∈ WS := WS_at 1087 (by decide +kernel) rfl
theorem wk_1084 : (.methodLink RX1 195 yX1_closeGap : Jvm.Cond) ∈ WS := WS_at 1084 (by decide +kernel) rfl
theorem wk_1086 : (.instanceMethod yX1_closeGap : Jvm.Cond) ∈ WS := WS_at 1086 (by decide +kernel) rfl
theorem wk_32 : (.selects RX1 yX1_closeGap yX1_closeGap : Jvm.Cond) ∈ WS := WS_at 32 (by decide +kernel) rfl
theorem vMX1_lift {l : Launch} (hl : l.stackTraces = false) (G : GT) : vM l G MX1_lift := ⟨fun i c j h => lookup_all (l := MX1_lift.fld) (P := fun i e => vFld RX1 i e.1 e.2) (all_n) i (c, j) h, fun i c fs h => lookup_all (l := MX1_lift.new) (P := fun i e => vNew RX1 i e.1 e.2) (all_n) i (c, fs) h, lookup_all (l := MX1_lift.anew) (P := fun i e => vANew RX1 i e) (all_n), lookup_all (l := MX1_lift.lng) (P := fun i e => Jvm.Cond.constantLong RX1 i e ∈ WS) (all_n), lookup_all (l := MX1_lift.thr) (P := fun i e => vThr RX1 cX1_lift i e) (all_n), fun h => absurd rfl h, lookup_all (l := MX1_lift.cal) (P := fun i e => vCal l G RX1 i e) (all_c (⟨cX1_rangeOf, 3, some (.object "Rangecard$Range"), fun y hy => by subst hy; exact ⟨by decide, wk_877, okX1_rangeOf hl, wk_59, ⟨by decide, by decide⟩, ⟨by decide +kernel, wk_874, wk_876, wk_31, (RX1, TX1, 7), rfl, rfl⟩⟩⟩) (all_c (⟨cX1_firstPlaceOf, 3, some .int, fun y hy => by subst hy; exact ⟨by decide, wk_243, okX1_firstPlaceOf hl, wk_59, ⟨by decide, by decide⟩, ⟨by decide +kernel, wk_240, wk_242, wk_12, (RX1, TX1, 7), rfl, rfl⟩⟩⟩) (all_c (⟨cX1_closeGap, 3, none, fun y hy => by subst hy; exact ⟨by decide, wk_1087, okX1_closeGap hl, wk_59, ⟨by decide, by decide⟩, ⟨by decide +kernel, wk_1084, wk_1086, wk_32, (RX1, TX1, 7), rfl, rfl⟩⟩⟩) (all_n))))⟩
theorem okX1_lift {l : Launch} (hl : l.stackTraces = false) {G : GT} : ∀ (args : List Value) (w : Hw) (S : Ot → Hw → Prop), spOf MX1_lift args w S → CX l G yX1_lift (.code yX1_lift cX1_lift 3 (some .int)) 8 2 12 args w S := CX_sp (M := MX1_lift) (y := yX1_lift) hl (by decide) rfl (vMX1_lift hl G) (fun h => by cases h)
