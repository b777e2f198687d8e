/-! Rangecard.knock()I -/
theorem dX1_knock_0 : decode cX1_knock 0 = .ok (.aload_n 0, 1) := by decide +kernel
theorem dX1_knock_1 : decode cX1_knock 1 = .ok (.dup, 1) := by decide +kernel
theorem dX1_knock_2 : decode cX1_knock 2 = .ok (.getfield 29, 3) := by decide +kernel
theorem dX1_knock_5 : decode cX1_knock 5 = .ok (.iconst 1, 1) := by decide +kernel
theorem dX1_knock_6 : decode cX1_knock 6 = .ok (.iadd, 1) := by decide +kernel
theorem dX1_knock_7 : decode cX1_knock 7 = .ok (.putfield 29, 3) := by decide +kernel
theorem dX1_knock_10 : decode cX1_knock 10 = .ok (.aload_n 0, 1) := by decide +kernel
theorem dX1_knock_11 : decode cX1_knock 11 = .ok (.getfield 29, 3) := by decide +kernel
theorem dX1_knock_14 : decode cX1_knock 14 = .ok (.ireturn, 1) := by decide +kernel
def MX1_knock : MT := ((RX1, cX1_knock, 1, 1, 0, 0, false, some .int), [(29, 5, 5)], [], [], [], [], 0, [])
section
variable {Q : Ot → Hw → Prop} {st : List Value} {w : Hw} {k n p q : Nat} {a b : Int32} {x y : Int64} {u v : Value} {l0 : Option Value}
theorem eX1_knock_0 : WP MX1_knock Q (0, [some (.ref p)], st, w, k, n) = WP MX1_knock Q (1, [some (.ref p)], .ref p :: st, w, k, n) := Eq.trans (WP_at (M := MX1_knock) rfl dX1_knock_0 (Or.inr rfl)) rfl
theorem eX1_knock_0N : WP MX1_knock Q (0, [some .null], st, w, k, n) = WP MX1_knock Q (1, [some .null], .null :: st, w, k, n) := Eq.trans (WP_at (M := MX1_knock) rfl dX1_knock_0 (Or.inr rfl)) rfl
theorem eX1_knock_1 : WP MX1_knock Q (1, [l0], .int a :: st, w, k, n) = WP MX1_knock Q (2, [l0], .int a :: .int a :: st, w, k, n) := by rw [WP_at (M := MX1_knock) rfl dX1_knock_1 (Or.inr rfl)]; exact and_t rfl
theorem eX1_knock_1R : WP MX1_knock Q (1, [l0], .ref p :: st, w, k, n) = WP MX1_knock Q (2, [l0], .ref p :: .ref p :: st, w, k, n) := by rw [WP_at (M := MX1_knock) rfl dX1_knock_1 (Or.inr rfl)]; exact and_t rfl
theorem eX1_knock_2 : WP MX1_knock Q (2, [l0], .ref p :: st, w, k, n) = go w p 5 fun fs => ∃ v, fs[5]? = some v ∧ WP MX1_knock Q (5, [l0], v :: st, w, k, n) := get_e rfl dX1_knock_2 rfl
theorem eX1_knock_5 : WP MX1_knock Q (5, [l0], st, w, k, n) = WP MX1_knock Q (6, [l0], .int 1 :: st, w, k, n) := iconst_e rfl dX1_knock_5 (by decide)
theorem eX1_knock_6 : WP MX1_knock Q (6, [l0], .int b :: .int a :: st, w, k, n) = WP MX1_knock Q (7, [l0], .int (a + b) :: st, w, k, n) := Eq.trans (WP_at (M := MX1_knock) rfl dX1_knock_6 (Or.inr rfl)) rfl
theorem eX1_knock_7 : WP MX1_knock Q (7, [l0], v :: .ref p :: st, w, k, n) = go w p 5 fun fs => 5 < fs.length ∧ (narrow (.int) v = v ∧ fits (.int) v = true) ∧ WP MX1_knock Q (10, [l0], st, upw w p (.inr (5, fs.set 5 v)), k, n) := put_e (q := (RX1, TX1, 7)) rfl dX1_knock_7 rfl rfl (tyX1_ok 5 (by decide)) (Or.inl rfl)
theorem eX1_knock_10 : WP MX1_knock Q (10, [some (.ref p)], st, w, k, n) = WP MX1_knock Q (11, [some (.ref p)], .ref p :: st, w, k, n) := Eq.trans (WP_at (M := MX1_knock) rfl dX1_knock_10 (Or.inr rfl)) rfl
theorem eX1_knock_10N : WP MX1_knock Q (10, [some .null], st, w, k, n) = WP MX1_knock Q (11, [some .null], .null :: st, w, k, n) := Eq.trans (WP_at (M := MX1_knock) rfl dX1_knock_10 (Or.inr rfl)) rfl
theorem eX1_knock_11 : WP MX1_knock Q (11, [l0], .ref p :: st, w, k, n) = go w p 5 fun fs => ∃ v, fs[5]? = some v ∧ WP MX1_knock Q (14, [l0], v :: st, w, k, n) := get_e rfl dX1_knock_11 rfl
theorem eX1_knock_14 : WP MX1_knock Q (14, [l0], [.int a], w, k, n) = (k ≤ 0 ∧ n ≤ 0 ∧ Q (.inl (some (.int a))) w) := (iret_e rfl dX1_knock_14 rfl).trans (and_t rfl)
end
theorem vMX1_knock {l : Launch} (hl : l.stackTraces = false) (G : GT) : vM l G MX1_knock := ⟨fun i c j h => lookup_all (l := MX1_knock.fld) (P := fun i e => vFld RX1 i e.1 e.2) (all_c (vF_RX1_29) (all_n)) i (c, j) h, fun i c fs h => lookup_all (l := MX1_knock.new) (P := fun i e => vNew RX1 i e.1 e.2) (all_n) i (c, fs) h, lookup_all (l := MX1_knock.anew) (P := fun i e => vANew RX1 i e) (all_n), lookup_all (l := MX1_knock.lng) (P := fun i e => Jvm.Cond.constantLong RX1 i e ∈ WS) (all_n), lookup_all (l := MX1_knock.thr) (P := fun i e => vThr RX1 cX1_knock i e) (all_n), fun h => absurd rfl h, lookup_all (l := MX1_knock.cal) (P := fun i e => vCal l G RX1 i e) (all_n)⟩
theorem okX1_knock {l : Launch} (hl : l.stackTraces = false) {G : GT} : ∀ (args : List Value) (w : Hw) (S : Ot → Hw → Prop), spOf MX1_knock args w S → CX l G yX1_knock (.code yX1_knock cX1_knock 1 (some .int)) 1 0 0 args w S := CX_sp (M := MX1_knock) (y := yX1_knock) hl (by decide) rfl (vMX1_knock hl G) (fun h => by cases h)
/-! Rangecard.isSound()Z -/
theorem dX1_isSound_0 : decode cX1_isSound 0 = .ok (.iconst 0, 1) := by decide +kernel
theorem dX1_isSound_1 : decode cX1_isSound 1 = .ok (.istore_n 1, 1) := by decide +kernel
theorem dX1_isSound_2 : decode cX1_isSound 2 = .ok (.iload_n 1, 1) := by decide +kernel
theorem dX1_isSound_3 : decode cX1_isSound 3 = .ok (.bipush 6, 2) := by decide +kernel
theorem dX1_isSound_5 : decode cX1_isSound 5 = .ok (.if_icmp .ge 38, 3) := by decide +kernel
theorem dX1_isSound_8 : decode cX1_isSound 8 = .ok (.aload_n 0, 1) := by decide +kernel
theorem dX1_isSound_9 : decode cX1_isSound 9 = .ok (.getfield 15, 3) := by decide +kernel
theorem dX1_isSound_12 : decode cX1_isSound 12 = .ok (.iload_n 1, 1) := by decide +kernel
theorem dX1_isSound_13 : decode cX1_isSound 13 = .ok (.aaload, 1) := by decide +kernel
theorem dX1_isSound_14 : decode cX1_isSound 14 = .ok (.astore_n 2, 1) := by decide +kernel
theorem dX1_isSound_15 : decode cX1_isSound 15 = .ok (.aload_n 2, 1) := by decide +kernel
theorem dX1_isSound_16 : decode cX1_isSound 16 = .ok (.ifnull 21, 3) := by decide +kernel
theorem dX1_isSound_19 : decode cX1_isSound 19 = .ok (.aload_n 0, 1) := by decide +kernel
theorem dX1_isSound_20 : decode cX1_isSound 20 = .ok (.aload_n 2, 1) := by decide +kernel
theorem dX1_isSound_21 : decode cX1_isSound 21 = .ok (.invokevirtual 208, 3) := by decide +kernel
theorem dX1_isSound_24 : decode cX1_isSound 24 = .ok (.ifCond .eq 11, 3) := by decide +kernel
theorem dX1_isSound_27 : decode cX1_isSound 27 = .ok (.aload_n 0, 1) := by decide +kernel
theorem dX1_isSound_28 : decode cX1_isSound 28 = .ok (.aload_n 2, 1) := by decide +kernel
theorem dX1_isSound_29 : decode cX1_isSound 29 = .ok (.invokevirtual 211, 3) := by decide +kernel
theorem dX1_isSound_32 : decode cX1_isSound 32 = .ok (.ifCond .ne 5, 3) := by decide +kernel
theorem dX1_isSound_35 : decode cX1_isSound 35 = .ok (.iconst 0, 1) := by decide +kernel
theorem dX1_isSound_36 : decode cX1_isSound 36 = .ok (.ireturn, 1) := by decide +kernel
theorem dX1_isSound_37 : decode cX1_isSound 37 = .ok (.iinc 1 1, 3) := by decide +kernel
theorem dX1_isSound_40 : decode cX1_isSound 40 = .ok (.goto (-38), 3) := by decide +kernel
theorem dX1_isSound_43 : decode cX1_isSound 43 = .ok (.aload_n 0, 1) := by decide +kernel
theorem dX1_isSound_44 : decode cX1_isSound 44 = .ok (.invokevirtual 214, 3) := by decide +kernel
theorem dX1_isSound_47 : decode cX1_isSound 47 = .ok (.ireturn, 1) := by decide +kernel
def MX1_isSound : MT := ((RX1, cX1_isSound, 3, 6, 24, 96, false, some .boolean), [(15, 5, 1)], [], [], [], [], 0, [(208, 2, 2, 5, 5, 4, 16, yX1_isSoundAlone, spOf MX1_isSoundAlone), (211, 2, 2, 5, 2, 0, 0, yX1_isSameToAndFro, spOf MX1_isSameToAndFro), (214, 2, 1, 5, 3, 0, 0, yX1_isEachFoundInPile, spOf MX1_isEachFoundInPile)])
section
variable {Q : Ot → Hw → Prop} {st : List Value} {w : Hw} {k n p q : Nat} {a b : Int32} {x y : Int64} {u v : Value} {l0 l1 l2 : Option Value}
theorem eX1_isSound_0 : WP MX1_isSound Q (0, [l0, l1, l2], st, w, k, n) = WP MX1_isSound Q (1, [l0, l1, l2], .int 0 :: st, w, k, n) := iconst_e rfl dX1_isSound_0 (by decide)
theorem eX1_isSound_1 : WP MX1_isSound Q (1, [l0, l1, l2], .int a :: st, w, k, n) = WP MX1_isSound Q (2, [nl l0, some (.int a), l2], st, w, k, n) := by rw [WP_at (M := MX1_isSound) rfl dX1_isSound_1 (Or.inr rfl)]; exact and_t (Nat.le_of_ble_eq_true rfl)
theorem eX1_isSound_2 : WP MX1_isSound Q (2, [l0, some (.int a), l2], st, w, k, n) = WP MX1_isSound Q (3, [l0, some (.int a), l2], .int a :: st, w, k, n) := Eq.trans (WP_at (M := MX1_isSound) rfl dX1_isSound_2 (Or.inr rfl)) rfl
theorem eX1_isSound_3 : WP MX1_isSound Q (3, [l0, l1, l2], st, w, k, n) = WP MX1_isSound Q (5, [l0, l1, l2], .int 6 :: st, w, k, n) := bipush_e rfl dX1_isSound_3 (by decide)
theorem eX1_isSound_5 : WP MX1_isSound Q (5, [l0, l1, l2], .int b :: .int a :: st, w, k, n) = if b ≤ a then WP MX1_isSound Q (43, [l0, l1, l2], st, w, k, n) else WP MX1_isSound Q (8, [l0, l1, l2], st, w, k, n) := icm_e (b ≤ a) rfl dX1_isSound_5 rfl (by decide)
theorem eX1_isSound_8 : WP MX1_isSound Q (8, [some (.ref p), l1, l2], st, w, k, n) = WP MX1_isSound Q (9, [some (.ref p), l1, l2], .ref p :: st, w, k, n) := Eq.trans (WP_at (M := MX1_isSound) rfl dX1_isSound_8 (Or.inr rfl)) rfl
theorem eX1_isSound_8N : WP MX1_isSound Q (8, [some .null, l1, l2], st, w, k, n) = WP MX1_isSound Q (9, [some .null, l1, l2], .null :: st, w, k, n) := Eq.trans (WP_at (M := MX1_isSound) rfl dX1_isSound_8 (Or.inr rfl)) rfl
theorem eX1_isSound_9 : WP MX1_isSound Q (9, [l0, l1, l2], .ref p :: st, w, k, n) = go w p 5 fun fs => ∃ v, fs[1]? = some v ∧ WP MX1_isSound Q (12, [l0, l1, l2], v :: st, w, k, n) := get_e rfl dX1_isSound_9 rfl
theorem eX1_isSound_12 : WP MX1_isSound Q (12, [l0, some (.int a), l2], st, w, k, n) = WP MX1_isSound Q (13, [l0, some (.int a), l2], .int a :: st, w, k, n) := Eq.trans (WP_at (M := MX1_isSound) rfl dX1_isSound_12 (Or.inr rfl)) rfl
theorem eX1_isSound_13 : WP MX1_isSound Q (13, [l0, l1, l2], .int a :: .ref p :: st, w, k, n) = gq w p fun t N f => (t = 4 ∨ t = 5) ∧ vp_in a N ∧ WP MX1_isSound Q (14, [l0, l1, l2], va_rf (f a.toNatClampNeg) :: st, w, k, n) := Eq.trans (WP_at (M := MX1_isSound) rfl dX1_isSound_13 (Or.inr rfl)) rfl
theorem eX1_isSound_14 : WP MX1_isSound Q (14, [l0, l1, l2], .ref p :: st, w, k, n) = WP MX1_isSound Q (15, [l0, nl l1, some (.ref p)], st, w, k, n) := by rw [WP_at (M := MX1_isSound) rfl dX1_isSound_14 (Or.inr rfl)]; exact and_t (Nat.le_of_ble_eq_true rfl)
theorem eX1_isSound_14N : WP MX1_isSound Q (14, [l0, l1, l2], .null :: st, w, k, n) = WP MX1_isSound Q (15, [l0, nl l1, some (.null)], st, w, k, n) := by rw [WP_at (M := MX1_isSound) rfl dX1_isSound_14 (Or.inr rfl)]; exact and_t (Nat.le_of_ble_eq_true rfl)
theorem eX1_isSound_15 : WP MX1_isSound Q (15, [l0, l1, some (.ref p)], st, w, k, n) = WP MX1_isSound Q (16, [l0, l1, some (.ref p)], .ref p :: st, w, k, n) := Eq.trans (WP_at (M := MX1_isSound) rfl dX1_isSound_15 (Or.inr rfl)) rfl
theorem eX1_isSound_15N : WP MX1_isSound Q (15, [l0, l1, some .null], st, w, k, n) = WP MX1_isSound Q (16, [l0, l1, some .null], .null :: st, w, k, n) := Eq.trans (WP_at (M := MX1_isSound) rfl dX1_isSound_15 (Or.inr rfl)) rfl
theorem eX1_isSound_16R : WP MX1_isSound Q (16, [l0, l1, l2], .ref p :: st, w, k, n) = WP MX1_isSound Q (19, [l0, l1, l2], st, w, k, n) := ifnullR_e rfl dX1_isSound_16 (tgt := 37) (by decide)
theorem eX1_isSound_16N : WP MX1_isSound Q (16, [l0, l1, l2], .null :: st, w, k, n) = WP MX1_isSound Q (37, [l0, l1, l2], st, w, k, n) := ifnullN_e rfl dX1_isSound_16 (tgt := 37) (by decide)
theorem eX1_isSound_19 : WP MX1_isSound Q (19, [some (.ref p), l1, l2], st, w, k, n) = WP MX1_isSound Q (20, [some (.ref p), l1, l2], .ref p :: st, w, k, n) := Eq.trans (WP_at (M := MX1_isSound) rfl dX1_isSound_19 (Or.inr rfl)) rfl
theorem eX1_isSound_19N : WP MX1_isSound Q (19, [some .null, l1, l2], st, w, k, n) = WP MX1_isSound Q (20, [some .null, l1, l2], .null :: st, w, k, n) := Eq.trans (WP_at (M := MX1_isSound) rfl dX1_isSound_19 (Or.inr rfl)) rfl
theorem eX1_isSound_20 : WP MX1_isSound Q (20, [l0, l1, some (.ref p)], st, w, k, n) = WP MX1_isSound Q (21, [l0, l1, some (.ref p)], .ref p :: st, w, k, n) := Eq.trans (WP_at (M := MX1_isSound) rfl dX1_isSound_20 (Or.inr rfl)) rfl
theorem eX1_isSound_20N : WP MX1_isSound Q (20, [l0, l1, some .null], st, w, k, n) = WP MX1_isSound Q (21, [l0, l1, some .null], .null :: st, w, k, n) := Eq.trans (WP_at (M := MX1_isSound) rfl dX1_isSound_20 (Or.inr rfl)) rfl
theorem eX1_isSound_21R {z0 : Nat} : WP MX1_isSound Q (21, [l0, l1, l2], .ref z0 :: .ref p :: st, w, k, n) = (go w p 5 (fun _ => True) ∧ wt st ≤ 8 ∧ k + 4 ≤ 24 ∧ n + 16 ≤ 96 ∧ WP MX1_isSoundAlone (kx (fun v w' => WP MX1_isSound Q (24, [l0, l1, l2], v.toList ++ st, w', k + 4, n + 16)) (fun E w' => Q (.inr E) w')) (0, [some (.ref p), some (.ref z0)], [], w, 0, 0)) := csV (As := [.ref z0]) (rest := st) MX1_isSoundAlone rfl dX1_isSound_21 rfl (by decide) (by decide) (Nat.le_of_ble_eq_true rfl) rfl
theorem eX1_isSound_21N  : WP MX1_isSound Q (21, [l0, l1, l2], .null :: .ref p :: st, w, k, n) = (go w p 5 (fun _ => True) ∧ wt st ≤ 8 ∧ k + 4 ≤ 24 ∧ n + 16 ≤ 96 ∧ WP MX1_isSoundAlone (kx (fun v w' => WP MX1_isSound Q (24, [l0, l1, l2], v.toList ++ st, w', k + 4, n + 16)) (fun E w' => Q (.inr E) w')) (0, [some (.ref p), some .null], [], w, 0, 0)) := csV (As := [.null]) (rest := st) MX1_isSoundAlone rfl dX1_isSound_21 rfl (by decide) (by decide) (Nat.le_of_ble_eq_true rfl) rfl
theorem eX1_isSound_24 : WP MX1_isSound Q (24, [l0, l1, l2], .int a :: st, w, k, n) = if a = 0 then WP MX1_isSound Q (35, [l0, l1, l2], st, w, k, n) else WP MX1_isSound Q (27, [l0, l1, l2], st, w, k, n) := ifc_e (a = 0) rfl dX1_isSound_24 rfl (by decide)
theorem eX1_isSound_27 : WP MX1_isSound Q (27, [some (.ref p), l1, l2], st, w, k, n) = WP MX1_isSound Q (28, [some (.ref p), l1, l2], .ref p :: st, w, k, n) := Eq.trans (WP_at (M := MX1_isSound) rfl dX1_isSound_27 (Or.inr rfl)) rfl
theorem eX1_isSound_27N : WP MX1_isSound Q (27, [some .null, l1, l2], st, w, k, n) = WP MX1_isSound Q (28, [some .null, l1, l2], .null :: st, w, k, n) := Eq.trans (WP_at (M := MX1_isSound) rfl dX1_isSound_27 (Or.inr rfl)) rfl
theorem eX1_isSound_28 : WP MX1_isSound Q (28, [l0, l1, some (.ref p)], st, w, k, n) = WP MX1_isSound Q (29, [l0, l1, some (.ref p)], .ref p :: st, w, k, n) := Eq.trans (WP_at (M := MX1_isSound) rfl dX1_isSound_28 (Or.inr rfl)) rfl
theorem eX1_isSound_28N : WP MX1_isSound Q (28, [l0, l1, some .null], st, w, k, n) = WP MX1_isSound Q (29, [l0, l1, some .null], .null :: st, w, k, n) := Eq.trans (WP_at (M := MX1_isSound) rfl dX1_isSound_28 (Or.inr rfl)) rfl
theorem eX1_isSound_29R {z0 : Nat} : WP MX1_isSound Q (29, [l0, l1, l2], .ref z0 :: .ref p :: st, w, k, n) = (go w p 5 (fun _ => True) ∧ wt st ≤ 8 ∧ k + 0 ≤ 24 ∧ n + 0 ≤ 96 ∧ WP MX1_isSameToAndFro (kx (fun v w' => WP MX1_isSound Q (32, [l0, l1, l2], v.toList ++ st, w', k + 0, n + 0)) (fun E w' => Q (.inr E) w')) (0, [some (.ref p), some (.ref z0), none, none], [], w, 0, 0)) := csV (As := [.ref z0]) (rest := st) MX1_isSameToAndFro rfl dX1_isSound_29 rfl (by decide) (by decide) (Nat.le_of_ble_eq_true rfl) rfl
theorem eX1_isSound_29N  : WP MX1_isSound Q (29, [l0, l1, l2], .null :: .ref p :: st, w, k, n) = (go w p 5 (fun _ => True) ∧ wt st ≤ 8 ∧ k + 0 ≤ 24 ∧ n + 0 ≤ 96 ∧ WP MX1_isSameToAndFro (kx (fun v w' => WP MX1_isSound Q (32, [l0, l1, l2], v.toList ++ st, w', k + 0, n + 0)) (fun E w' => Q (.inr E) w')) (0, [some (.ref p), some .null, none, none], [], w, 0, 0)) := csV (As := [.null]) (rest := st) MX1_isSameToAndFro rfl dX1_isSound_29 rfl (by decide) (by decide) (Nat.le_of_ble_eq_true rfl) rfl
theorem eX1_isSound_32 : WP MX1_isSound Q (32, [l0, l1, l2], .int a :: st, w, k, n) = if a = 0 then WP MX1_isSound Q (35, [l0, l1, l2], st, w, k, n) else WP MX1_isSound Q (37, [l0, l1, l2], st, w, k, n) := ifcn_e (a = 0) rfl dX1_isSound_32 rfl (by decide)
theorem eX1_isSound_35 : WP MX1_isSound Q (35, [l0, l1, l2], st, w, k, n) = WP MX1_isSound Q (36, [l0, l1, l2], .int 0 :: st, w, k, n) := iconst_e rfl dX1_isSound_35 (by decide)
theorem eX1_isSound_36 : WP MX1_isSound Q (36, [l0, l1, l2], [.int a], w, k, n) = (narrow (.boolean) (.int a) = .int a ∧ k ≤ 24 ∧ n ≤ 96 ∧ Q (.inl (some (.int a))) w) := iret_e rfl dX1_isSound_36 rfl
theorem eX1_isSound_37 : WP MX1_isSound Q (37, [l0, some (.int a), l2], st, w, k, n) = WP MX1_isSound Q (40, [nl l0, some (.int (a + 1)), l2], st, w, k, n) := Eq.trans (iinc_e (M := MX1_isSound) (L := [l0, some (.int a), l2]) (d := 1) rfl dX1_isSound_37 (by decide) rfl) rfl
theorem eX1_isSound_40 : WP MX1_isSound Q (40, [l0, l1, l2], st, w, k, n) = WP MX1_isSound Q (2, [l0, l1, l2], st, w, k, n) := goto_e rfl dX1_isSound_40 (by decide)
theorem eX1_isSound_43 : WP MX1_isSound Q (43, [some (.ref p), l1, l2], st, w, k, n) = WP MX1_isSound Q (44, [some (.ref p), l1, l2], .ref p :: st, w, k, n) := Eq.trans (WP_at (M := MX1_isSound) rfl dX1_isSound_43 (Or.inr rfl)) rfl
theorem eX1_isSound_43N : WP MX1_isSound Q (43, [some .null, l1, l2], st, w, k, n) = WP MX1_isSound Q (44, [some .null, l1, l2], .null :: st, w, k, n) := Eq.trans (WP_at (M := MX1_isSound) rfl dX1_isSound_43 (Or.inr rfl)) rfl
theorem eX1_isSound_44  : WP MX1_isSound Q (44, [l0, l1, l2], .ref p :: st, w, k, n) = (go w p 5 (fun _ => True) ∧ wt st ≤ 8 ∧ k + 0 ≤ 24 ∧ n + 0 ≤ 96 ∧ WP MX1_isEachFoundInPile (kx (fun v w' => WP MX1_isSound Q (47, [l0, l1, l2], v.toList ++ st, w', k + 0, n + 0)) (fun E w' => Q (.inr E) w')) (0, [some (.ref p), none, none], [], w, 0, 0)) := csV (As := []) (rest := st) MX1_isEachFoundInPile rfl dX1_isSound_44 rfl (by decide) (by decide) (Nat.le_of_ble_eq_true rfl) rfl
theorem eX1_isSound_47 : WP MX1_isSound Q (47, [l0, l1, l2], [.int a], w, k, n) = (narrow (.boolean) (.int a) = .int a ∧ k ≤ 24 ∧ n ≤ 96 ∧ Q (.inl (some (.int a))) w) := iret_e rfl dX1_isSound_47 rfl
end
theorem wk_140 : (.code yX1_isSoundAlone cX1_isSoundAlone 2 (some .boolean) : Jvm.Cond) ∈ WS := WS_at 140 (by decide +kernel) rfl
theorem wk_137 : (.methodLink RX1 208 yX1_isSoundAlone : Jvm.Cond) ∈ WS := WS_at 137 (by decide +kernel) rfl
theorem wk_139 : (.instanceMethod yX1_isSoundAlone : Jvm.Cond) ∈ WS := WS_at 139 (by decide +kernel) rfl
theorem wk_0 : (.selects RX1 yX1_isSoundAlone yX1_isSoundAlone : Jvm.Cond) ∈ WS := WS_at 0 (by decide +kernel) rfl
theorem wk_235 : (.code yX1_isSameToAndFro cX1_isSameToAndFro 4 (some .boolean) : Jvm.Cond) ∈ WS := WS_at 235 (by decide +kernel) rfl
theorem wk_232 : (.methodLink RX1 211 yX1_isSameToAndFro : Jvm.Cond) ∈ WS := WS_at 232 (by decide +kernel) rfl
theorem wk_234 : (.instanceMethod yX1_isSameToAndFro : Jvm.Cond) ∈ WS := WS_at 234 (by decide +kernel) rfl
theorem wk_10 : (.selects RX1 yX1_isSameToAndFro yX1_isSameToAndFro : Jvm.Cond) ∈ WS := WS_at 10 (by decide +kernel) rfl
theorem wk_239 : (.code yX1_isEachFoundInPile cX1_isEachFoundInPile 3 (some .boolean) : Jvm.Cond) ∈ WS := WS_at 239 (by decide +kernel) rfl
theorem wk_236 : (.methodLink RX1 214 yX1_isEachFoundInPile : Jvm.Cond) ∈ WS := WS_at 236 (by decide +kernel) rfl
theorem wk_238 : (.instanceMethod yX1_isEachFoundInPile : Jvm.Cond) ∈ WS := WS_at 238 (by decide +kernel) rfl
theorem wk_11 : (.selects RX1 yX1_isEachFoundInPile yX1_isEachFoundInPile : Jvm.Cond) ∈ WS := WS_at 11 (by decide +kernel) rfl
theorem vMX1_isSound {l : Launch} (hl : l.stackTraces = false) (G : GT) : vM l G MX1_isSound := ⟨fun i c j h => lookup_all (l := MX1_isSound.fld) (P := fun i e => vFld RX1 i e.1 e.2) (all_c (vF_RX1_15) (all_n)) i (c, j) h, fun i c fs h => lookup_all (l := MX1_isSound.new) (P := fun i e => vNew RX1 i e.1 e.2) (all_n) i (c, fs) h, lookup_all (l := MX1_isSound.anew) (P := fun i e => vANew RX1 i e) (all_n), lookup_all (l := MX1_isSound.lng) (P := fun i e => Jvm.Cond.constantLong RX1 i e ∈ WS) (all_n), lookup_all (l := MX1_isSound.thr) (P := fun i e => vThr RX1 cX1_isSound i e) (all_n), fun h => absurd rfl h, lookup_all (l := MX1_isSound.cal) (P := fun i e => vCal l G RX1 i e) (all_c (⟨cX1_isSoundAlone, 2, some .boolean, fun y hy => by subst hy; exact ⟨by decide, wk_140, okX1_isSoundAlone hl, wk_59, ⟨by decide, by decide⟩, ⟨by decide +kernel, wk_137, wk_139, wk_0, (RX1, TX1, 7), rfl, rfl⟩⟩⟩) (all_c (⟨cX1_isSameToAndFro, 4, some .boolean, fun y hy => by subst hy; exact ⟨by decide, wk_235, okX1_isSameToAndFro hl, wk_59, ⟨by decide, by decide⟩, ⟨by decide +kernel, wk_232, wk_234, wk_10, (RX1, TX1, 7), rfl, rfl⟩⟩⟩) (all_c (⟨cX1_isEachFoundInPile, 3, some .boolean, fun y hy => by subst hy; exact ⟨by decide, wk_239, okX1_isEachFoundInPile hl, wk_59, ⟨by decide, by decide⟩, ⟨by decide +kernel, wk_236, wk_238, wk_11, (RX1, TX1, 7), rfl, rfl⟩⟩⟩) (all_n))))⟩
theorem okX1_isSound {l : Launch} (hl : l.stackTraces = false) {G : GT} : ∀ (args : List Value) (w : Hw) (S : Ot → Hw → Prop), spOf MX1_isSound args w S → CX l G yX1_isSound (.code yX1_isSound cX1_isSound 3 (some .boolean)) 6 24 96 args w S := CX_sp (M := MX1_isSound) (y := yX1_isSound) hl (by decide) rfl (vMX1_isSound hl G) (fun h => by cases h)
/-! Rangecard.digest()J -/
theorem dX1_digest_0 : decode cX1_digest 0 = .ok (.aload_n 0, 1) := by decide +kernel
theorem dX1_digest_1 : decode cX1_digest 1 = .ok (.ldc2_w 217, 3) := by decide +kernel
theorem dX1_digest_4 : decode cX1_digest 4 = .ok (.invokevirtual 219, 3) := by decide +kernel
theorem dX1_digest_7 : decode cX1_digest 7 = .ok (.lstore_n 1, 1) := by decide +kernel
theorem dX1_digest_8 : decode cX1_digest 8 = .ok (.iconst 0, 1) := by decide +kernel
theorem dX1_digest_9 : decode cX1_digest 9 = .ok (.istore_n 3, 1) := by decide +kernel
theorem dX1_digest_10 : decode cX1_digest 10 = .ok (.iload_n 3, 1) := by decide +kernel
theorem dX1_digest_11 : decode cX1_digest 11 = .ok (.bipush 8, 2) := by decide +kernel
theorem dX1_digest_13 : decode cX1_digest 13 = .ok (.if_icmp .ge 21, 3) := by decide +kernel
theorem dX1_digest_16 : decode cX1_digest 16 = .ok (.aload_n 0, 1) := by decide +kernel
theorem dX1_digest_17 : decode cX1_digest 17 = .ok (.lload_n 1, 1) := by decide +kernel
theorem dX1_digest_18 : decode cX1_digest 18 = .ok (.aload_n 0, 1) := by decide +kernel
theorem dX1_digest_19 : decode cX1_digest 19 = .ok (.getfield 9, 3) := by decide +kernel
theorem dX1_digest_22 : decode cX1_digest 22 = .ok (.iload_n 3, 1) := by decide +kernel
theorem dX1_digest_23 : decode cX1_digest 23 = .ok (.laload, 1) := by decide +kernel
theorem dX1_digest_24 : decode cX1_digest 24 = .ok (.invokevirtual 223, 3) := by decide +kernel
theorem dX1_digest_27 : decode cX1_digest 27 = .ok (.lstore_n 1, 1) := by decide +kernel
theorem dX1_digest_28 : decode cX1_digest 28 = .ok (.iinc 3 1, 3) := by decide +kernel
theorem dX1_digest_31 : decode cX1_digest 31 = .ok (.goto (-21), 3) := by decide +kernel
theorem dX1_digest_34 : decode cX1_digest 34 = .ok (.iconst 0, 1) := by decide +kernel
theorem dX1_digest_35 : decode cX1_digest 35 = .ok (.istore_n 3, 1) := by decide +kernel
theorem dX1_digest_36 : decode cX1_digest 36 = .ok (.iload_n 3, 1) := by decide +kernel
theorem dX1_digest_37 : decode cX1_digest 37 = .ok (.bipush 6, 2) := by decide +kernel
theorem dX1_digest_39 : decode cX1_digest 39 = .ok (.if_icmp .ge 21, 3) := by decide +kernel
theorem dX1_digest_42 : decode cX1_digest 42 = .ok (.aload_n 0, 1) := by decide +kernel
theorem dX1_digest_43 : decode cX1_digest 43 = .ok (.lload_n 1, 1) := by decide +kernel
theorem dX1_digest_44 : decode cX1_digest 44 = .ok (.aload_n 0, 1) := by decide +kernel
theorem dX1_digest_45 : decode cX1_digest 45 = .ok (.getfield 15, 3) := by decide +kernel
theorem dX1_digest_48 : decode cX1_digest 48 = .ok (.iload_n 3, 1) := by decide +kernel
theorem dX1_digest_49 : decode cX1_digest 49 = .ok (.aaload, 1) := by decide +kernel
theorem dX1_digest_50 : decode cX1_digest 50 = .ok (.invokevirtual 227, 3) := by decide +kernel
theorem dX1_digest_53 : decode cX1_digest 53 = .ok (.lstore_n 1, 1) := by decide +kernel
theorem dX1_digest_54 : decode cX1_digest 54 = .ok (.iinc 3 1, 3) := by decide +kernel
theorem dX1_digest_57 : decode cX1_digest 57 = .ok (.goto (-21), 3) := by decide +kernel
theorem dX1_digest_60 : decode cX1_digest 60 = .ok (.aload_n 0, 1) := by decide +kernel
theorem dX1_digest_61 : decode cX1_digest 61 = .ok (.lload_n 1, 1) := by decide +kernel
theorem dX1_digest_62 : decode cX1_digest 62 = .ok (.invokevirtual 231, 3) := by decide +kernel
theorem dX1_digest_65 : decode cX1_digest 65 = .ok (.lstore_n 1, 1) := by decide +kernel
theorem dX1_digest_66 : decode cX1_digest 66 = .ok (.lload_n 1, 1) := by decide +kernel
theorem dX1_digest_67 : decode cX1_digest 67 = .ok (.aload_n 0, 1) := by decide +kernel
theorem dX1_digest_68 : decode cX1_digest 68 = .ok (.invokevirtual 234, 3) := by decide +kernel
theorem dX1_digest_71 : decode cX1_digest 71 = .ok (.invokestatic 130, 3) := by decide +kernel
theorem dX1_digest_74 : decode cX1_digest 74 = .ok (.i2l, 1) := by decide +kernel
theorem dX1_digest_75 : decode cX1_digest 75 = .ok (.invokestatic 237, 3) := by decide +kernel
theorem dX1_digest_78 : decode cX1_digest 78 = .ok (.lreturn, 1) := by decide +kernel
def MX1_digest : MT := ((RX1, cX1_digest, 4, 7, 24, 96, false, some .long), [(9, 5, 0), (15, 5, 1)], [], [], [(217, 7783)], [], 0, [(219, 2, 2, 5, 4, 0, 0, yX1_withHouse, spOf MX1_withHouse), (223, 2, 3, 5, 5, 0, 0, yX1_withNumber, spOf MX1_withNumber), (227, 2, 3, 5, 6, 0, 0, yX1_withCard, spOf MX1_withCard), (231, 2, 2, 5, 5, 0, 0, yX1_withWhichAndPile, spOf MX1_withWhichAndPile), (234, 2, 1, 5, 6, 24, 96, yX1_isSound, spOf MX1_isSound), (130, 0, 1, 0, 1, 0, 0, yX1_asNumber, spOf MX1_asNumber), (237, 0, 2, 0, 1, 0, 0, yX1_with, spOf MX1_with)])
section
variable {Q : Ot → Hw → Prop} {st : List Value} {w : Hw} {k n p q : Nat} {a b : Int32} {x y : Int64} {u v : Value} {l0 l1 l2 l3 : Option Value}
theorem eX1_digest_0 : WP MX1_digest Q (0, [some (.ref p), l1, l2, l3], st, w, k, n) = WP MX1_digest Q (1, [some (.ref p), l1, l2, l3], .ref p :: st, w, k, n) := Eq.trans (WP_at (M := MX1_digest) rfl dX1_digest_0 (Or.inr rfl)) rfl
theorem eX1_digest_0N : WP MX1_digest Q (0, [some .null, l1, l2, l3], st, w, k, n) = WP MX1_digest Q (1, [some .null, l1, l2, l3], .null :: st, w, k, n) := Eq.trans (WP_at (M := MX1_digest) rfl dX1_digest_0 (Or.inr rfl)) rfl
theorem eX1_digest_1 : WP MX1_digest Q (1, [l0, l1, l2, l3], st, w, k, n) = WP MX1_digest Q (4, [l0, l1, l2, l3], .long 7783 :: st, w, k, n) := ldc2_e rfl dX1_digest_1 rfl
theorem eX1_digest_4 {z0 : Int64} : WP MX1_digest Q (4, [l0, l1, l2, l3], .long z0 :: .ref p :: st, w, k, n) = (go w p 5 (fun _ => True) ∧ wt st ≤ 8 ∧ k + 0 ≤ 24 ∧ n + 0 ≤ 96 ∧ WP MX1_withHouse (kx (fun v w' => WP MX1_digest Q (7, [l0, l1, l2, l3], v.toList ++ st, w', k + 0, n + 0)) (fun E w' => Q (.inr E) w')) (0, [some (.ref p), some (.long z0), none, none, none, none], [], w, 0, 0)) := csV (As := [.long z0]) (rest := st) MX1_withHouse rfl dX1_digest_4 rfl (by decide) (by decide) (Nat.le_of_ble_eq_true rfl) rfl
theorem eX1_digest_7 : WP MX1_digest Q (7, [l0, l1, l2, l3], .long x :: st, w, k, n) = WP MX1_digest Q (8, [nl l0, some (.long x), none, l3], st, w, k, n) := by rw [WP_at (M := MX1_digest) rfl dX1_digest_7 (Or.inr rfl)]; exact and_t (Nat.le_of_ble_eq_true rfl)
theorem eX1_digest_8 : WP MX1_digest Q (8, [l0, l1, l2, l3], st, w, k, n) = WP MX1_digest Q (9, [l0, l1, l2, l3], .int 0 :: st, w, k, n) := iconst_e rfl dX1_digest_8 (by decide)
theorem eX1_digest_9 : WP MX1_digest Q (9, [l0, l1, l2, l3], .int a :: st, w, k, n) = WP MX1_digest Q (10, [l0, l1, nl l2, some (.int a)], st, w, k, n) := by rw [WP_at (M := MX1_digest) rfl dX1_digest_9 (Or.inr rfl)]; exact and_t (Nat.le_of_ble_eq_true rfl)
theorem eX1_digest_10 : WP MX1_digest Q (10, [l0, l1, l2, some (.int a)], st, w, k, n) = WP MX1_digest Q (11, [l0, l1, l2, some (.int a)], .int a :: st, w, k, n) := Eq.trans (WP_at (M := MX1_digest) rfl dX1_digest_10 (Or.inr rfl)) rfl
theorem eX1_digest_11 : WP MX1_digest Q (11, [l0, l1, l2, l3], st, w, k, n) = WP MX1_digest Q (13, [l0, l1, l2, l3], .int 8 :: st, w, k, n) := bipush_e rfl dX1_digest_11 (by decide)
theorem eX1_digest_13 : WP MX1_digest Q (13, [l0, l1, l2, l3], .int b :: .int a :: st, w, k, n) = if b ≤ a then WP MX1_digest Q (34, [l0, l1, l2, l3], st, w, k, n) else WP MX1_digest Q (16, [l0, l1, l2, l3], st, w, k, n) := icm_e (b ≤ a) rfl dX1_digest_13 rfl (by decide)
theorem eX1_digest_16 : WP MX1_digest Q (16, [some (.ref p), l1, l2, l3], st, w, k, n) = WP MX1_digest Q (17, [some (.ref p), l1, l2, l3], .ref p :: st, w, k, n) := Eq.trans (WP_at (M := MX1_digest) rfl dX1_digest_16 (Or.inr rfl)) rfl
theorem eX1_digest_16N : WP MX1_digest Q (16, [some .null, l1, l2, l3], st, w, k, n) = WP MX1_digest Q (17, [some .null, l1, l2, l3], .null :: st, w, k, n) := Eq.trans (WP_at (M := MX1_digest) rfl dX1_digest_16 (Or.inr rfl)) rfl
theorem eX1_digest_17 : WP MX1_digest Q (17, [l0, some (.long x), l2, l3], st, w, k, n) = WP MX1_digest Q (18, [l0, some (.long x), l2, l3], .long x :: st, w, k, n) := Eq.trans (WP_at (M := MX1_digest) rfl dX1_digest_17 (Or.inr rfl)) rfl
theorem eX1_digest_18 : WP MX1_digest Q (18, [some (.ref p), l1, l2, l3], st, w, k, n) = WP MX1_digest Q (19, [some (.ref p), l1, l2, l3], .ref p :: st, w, k, n) := Eq.trans (WP_at (M := MX1_digest) rfl dX1_digest_18 (Or.inr rfl)) rfl
theorem eX1_digest_18N : WP MX1_digest Q (18, [some .null, l1, l2, l3], st, w, k, n) = WP MX1_digest Q (19, [some .null, l1, l2, l3], .null :: st, w, k, n) := Eq.trans (WP_at (M := MX1_digest) rfl dX1_digest_18 (Or.inr rfl)) rfl
theorem eX1_digest_19 : WP MX1_digest Q (19, [l0, l1, l2, l3], .ref p :: st, w, k, n) = go w p 5 fun fs => ∃ v, fs[0]? = some v ∧ WP MX1_digest Q (22, [l0, l1, l2, l3], v :: st, w, k, n) := get_e rfl dX1_digest_19 rfl
theorem eX1_digest_22 : WP MX1_digest Q (22, [l0, l1, l2, some (.int a)], st, w, k, n) = WP MX1_digest Q (23, [l0, l1, l2, some (.int a)], .int a :: st, w, k, n) := Eq.trans (WP_at (M := MX1_digest) rfl dX1_digest_22 (Or.inr rfl)) rfl
theorem eX1_digest_23 : WP MX1_digest Q (23, [l0, l1, l2, l3], .int a :: .ref p :: st, w, k, n) = gl w p 0 fun N f => vp_in a N ∧ WP MX1_digest Q (24, [l0, l1, l2, l3], .long (f a.toNatClampNeg) :: st, w, k, n) := Eq.trans (WP_at (M := MX1_digest) rfl dX1_digest_23 (Or.inr rfl)) rfl
theorem eX1_digest_24 {z0 : Int64} {z1 : Int64} : WP MX1_digest Q (24, [l0, l1, l2, l3], .long z1 :: .long z0 :: .ref p :: st, w, k, n) = (go w p 5 (fun _ => True) ∧ wt st ≤ 8 ∧ k + 0 ≤ 24 ∧ n + 0 ≤ 96 ∧ WP MX1_withNumber (kx (fun v w' => WP MX1_digest Q (27, [l0, l1, l2, l3], v.toList ++ st, w', k + 0, n + 0)) (fun E w' => Q (.inr E) w')) (0, [some (.ref p), some (.long z0), none, some (.long z1), none, none, none], [], w, 0, 0)) := csV (As := [.long z0, .long z1]) (rest := st) MX1_withNumber rfl dX1_digest_24 rfl (by decide) (by decide) (Nat.le_of_ble_eq_true rfl) rfl
theorem eX1_digest_27 : WP MX1_digest Q (27, [l0, l1, l2, l3], .long x :: st, w, k, n) = WP MX1_digest Q (28, [nl l0, some (.long x), none, l3], st, w, k, n) := by rw [WP_at (M := MX1_digest) rfl dX1_digest_27 (Or.inr rfl)]; exact and_t (Nat.le_of_ble_eq_true rfl)
theorem eX1_digest_28 : WP MX1_digest Q (28, [l0, l1, l2, some (.int a)], st, w, k, n) = WP MX1_digest Q (31, [l0, l1, nl l2, some (.int (a + 1))], st, w, k, n) := Eq.trans (iinc_e (M := MX1_digest) (L := [l0, l1, l2, some (.int a)]) (d := 1) rfl dX1_digest_28 (by decide) rfl) rfl
theorem eX1_digest_31 : WP MX1_digest Q (31, [l0, l1, l2, l3], st, w, k, n) = WP MX1_digest Q (10, [l0, l1, l2, l3], st, w, k, n) := goto_e rfl dX1_digest_31 (by decide)
theorem eX1_digest_34 : WP MX1_digest Q (34, [l0, l1, l2, l3], st, w, k, n) = WP MX1_digest Q (35, [l0, l1, l2, l3], .int 0 :: st, w, k, n) := iconst_e rfl dX1_digest_34 (by decide)
theorem eX1_digest_35 : WP MX1_digest Q (35, [l0, l1, l2, l3], .int a :: st, w, k, n) = WP MX1_digest Q (36, [l0, l1, nl l2, some (.int a)], st, w, k, n) := by rw [WP_at (M := MX1_digest) rfl dX1_digest_35 (Or.inr rfl)]; exact and_t (Nat.le_of_ble_eq_true rfl)
theorem eX1_digest_36 : WP MX1_digest Q (36, [l0, l1, l2, some (.int a)], st, w, k, n) = WP MX1_digest Q (37, [l0, l1, l2, some (.int a)], .int a :: st, w, k, n) := Eq.trans (WP_at (M := MX1_digest) rfl dX1_digest_36 (Or.inr rfl)) rfl
theorem eX1_digest_37 : WP MX1_digest Q (37, [l0, l1, l2, l3], st, w, k, n) = WP MX1_digest Q (39, [l0, l1, l2, l3], .int 6 :: st, w, k, n) := bipush_e rfl dX1_digest_37 (by decide)
theorem eX1_digest_39 : WP MX1_digest Q (39, [l0, l1, l2, l3], .int b :: .int a :: st, w, k, n) = if b ≤ a then WP MX1_digest Q (60, [l0, l1, l2, l3], st, w, k, n) else WP MX1_digest Q (42, [l0, l1, l2, l3], st, w, k, n) := icm_e (b ≤ a) rfl dX1_digest_39 rfl (by decide)
theorem eX1_digest_42 : WP MX1_digest Q (42, [some (.ref p), l1, l2, l3], st, w, k, n) = WP MX1_digest Q (43, [some (.ref p), l1, l2, l3], .ref p :: st, w, k, n) := Eq.trans (WP_at (M := MX1_digest) rfl dX1_digest_42 (Or.inr rfl)) rfl
theorem eX1_digest_42N : WP MX1_digest Q (42, [some .null, l1, l2, l3], st, w, k, n) = WP MX1_digest Q (43, [some .null, l1, l2, l3], .null :: st, w, k, n) := Eq.trans (WP_at (M := MX1_digest) rfl dX1_digest_42 (Or.inr rfl)) rfl
theorem eX1_digest_43 : WP MX1_digest Q (43, [l0, some (.long x), l2, l3], st, w, k, n) = WP MX1_digest Q (44, [l0, some (.long x), l2, l3], .long x :: st, w, k, n) := Eq.trans (WP_at (M := MX1_digest) rfl dX1_digest_43 (Or.inr rfl)) rfl
theorem eX1_digest_44 : WP MX1_digest Q (44, [some (.ref p), l1, l2, l3], st, w, k, n) = WP MX1_digest Q (45, [some (.ref p), l1, l2, l3], .ref p :: st, w, k, n) := Eq.trans (WP_at (M := MX1_digest) rfl dX1_digest_44 (Or.inr rfl)) rfl
theorem eX1_digest_44N : WP MX1_digest Q (44, [some .null, l1, l2, l3], st, w, k, n) = WP MX1_digest Q (45, [some .null, l1, l2, l3], .null :: st, w, k, n) := Eq.trans (WP_at (M := MX1_digest) rfl dX1_digest_44 (Or.inr rfl)) rfl
theorem eX1_digest_45 : WP MX1_digest Q (45, [l0, l1, l2, l3], .ref p :: st, w, k, n) = go w p 5 fun fs => ∃ v, fs[1]? = some v ∧ WP MX1_digest Q (48, [l0, l1, l2, l3], v :: st, w, k, n) := get_e rfl dX1_digest_45 rfl
theorem eX1_digest_48 : WP MX1_digest Q (48, [l0, l1, l2, some (.int a)], st, w, k, n) = WP MX1_digest Q (49, [l0, l1, l2, some (.int a)], .int a :: st, w, k, n) := Eq.trans (WP_at (M := MX1_digest) rfl dX1_digest_48 (Or.inr rfl)) rfl
theorem eX1_digest_49 : WP MX1_digest Q (49, [l0, l1, l2, l3], .int a :: .ref p :: st, w, k, n) = gq w p fun t N f => (t = 4 ∨ t = 5) ∧ vp_in a N ∧ WP MX1_digest Q (50, [l0, l1, l2, l3], va_rf (f a.toNatClampNeg) :: st, w, k, n) := Eq.trans (WP_at (M := MX1_digest) rfl dX1_digest_49 (Or.inr rfl)) rfl
theorem eX1_digest_50R {z0 : Int64} {z1 : Nat} : WP MX1_digest Q (50, [l0, l1, l2, l3], .ref z1 :: .long z0 :: .ref p :: st, w, k, n) = (go w p 5 (fun _ => True) ∧ wt st ≤ 8 ∧ k + 0 ≤ 24 ∧ n + 0 ≤ 96 ∧ WP MX1_withCard (kx (fun v w' => WP MX1_digest Q (53, [l0, l1, l2, l3], v.toList ++ st, w', k + 0, n + 0)) (fun E w' => Q (.inr E) w')) (0, [some (.ref p), some (.long z0), none, some (.ref z1), none, none, none], [], w, 0, 0)) := csV (As := [.long z0, .ref z1]) (rest := st) MX1_withCard rfl dX1_digest_50 rfl (by decide) (by decide) (Nat.le_of_ble_eq_true rfl) rfl
theorem eX1_digest_50N {z0 : Int64} : WP MX1_digest Q (50, [l0, l1, l2, l3], .null :: .long z0 :: .ref p :: st, w, k, n) = (go w p 5 (fun _ => True) ∧ wt st ≤ 8 ∧ k + 0 ≤ 24 ∧ n + 0 ≤ 96 ∧ WP MX1_withCard (kx (fun v w' => WP MX1_digest Q (53, [l0, l1, l2, l3], v.toList ++ st, w', k + 0, n + 0)) (fun E w' => Q (.inr E) w')) (0, [some (.ref p), some (.long z0), none, some .null, none, none, none], [], w, 0, 0)) := csV (As := [.long z0, .null]) (rest := st) MX1_withCard rfl dX1_digest_50 rfl (by decide) (by decide) (Nat.le_of_ble_eq_true rfl) rfl
theorem eX1_digest_53 : WP MX1_digest Q (53, [l0, l1, l2, l3], .long x :: st, w, k, n) = WP MX1_digest Q (54, [nl l0, some (.long x), none, l3], st, w, k, n) := by rw [WP_at (M := MX1_digest) rfl dX1_digest_53 (Or.inr rfl)]; exact and_t (Nat.le_of_ble_eq_true rfl)
theorem eX1_digest_54 : WP MX1_digest Q (54, [l0, l1, l2, some (.int a)], st, w, k, n) = WP MX1_digest Q (57, [l0, l1, nl l2, some (.int (a + 1))], st, w, k, n) := Eq.trans (iinc_e (M := MX1_digest) (L := [l0, l1, l2, some (.int a)]) (d := 1) rfl dX1_digest_54 (by decide) rfl) rfl
theorem eX1_digest_57 : WP MX1_digest Q (57, [l0, l1, l2, l3], st, w, k, n) = WP MX1_digest Q (36, [l0, l1, l2, l3], st, w, k, n) := goto_e rfl dX1_digest_57 (by decide)
theorem eX1_digest_60 : WP MX1_digest Q (60, [some (.ref p), l1, l2, l3], st, w, k, n) = WP MX1_digest Q (61, [some (.ref p), l1, l2, l3], .ref p :: st, w, k, n) := Eq.trans (WP_at (M := MX1_digest) rfl dX1_digest_60 (Or.inr rfl)) rfl
theorem eX1_digest_60N : WP MX1_digest Q (60, [some .null, l1, l2, l3], st, w, k, n) = WP MX1_digest Q (61, [some .null, l1, l2, l3], .null :: st, w, k, n) := Eq.trans (WP_at (M := MX1_digest) rfl dX1_digest_60 (Or.inr rfl)) rfl
theorem eX1_digest_61 : WP MX1_digest Q (61, [l0, some (.long x), l2, l3], st, w, k, n) = WP MX1_digest Q (62, [l0, some (.long x), l2, l3], .long x :: st, w, k, n) := Eq.trans (WP_at (M := MX1_digest) rfl dX1_digest_61 (Or.inr rfl)) rfl
theorem eX1_digest_62 {z0 : Int64} : WP MX1_digest Q (62, [l0, l1, l2, l3], .long z0 :: .ref p :: st, w, k, n) = (go w p 5 (fun _ => True) ∧ wt st ≤ 8 ∧ k + 0 ≤ 24 ∧ n + 0 ≤ 96 ∧ WP MX1_withWhichAndPile (kx (fun v w' => WP MX1_digest Q (65, [l0, l1, l2, l3], v.toList ++ st, w', k + 0, n + 0)) (fun E w' => Q (.inr E) w')) (0, [some (.ref p), some (.long z0), none, none, none, none], [], w, 0, 0)) := csV (As := [.long z0]) (rest := st) MX1_withWhichAndPile rfl dX1_digest_62 rfl (by decide) (by decide) (Nat.le_of_ble_eq_true rfl) rfl
theorem eX1_digest_65 : WP MX1_digest Q (65, [l0, l1, l2, l3], .long x :: st, w, k, n) = WP MX1_digest Q (66, [nl l0, some (.long x), none, l3], st, w, k, n) := by rw [WP_at (M := MX1_digest) rfl dX1_digest_65 (Or.inr rfl)]; exact and_t (Nat.le_of_ble_eq_true rfl)
theorem eX1_digest_66 : WP MX1_digest Q (66, [l0, some (.long x), l2, l3], st, w, k, n) = WP MX1_digest Q (67, [l0, some (.long x), l2, l3], .long x :: st, w, k, n) := Eq.trans (WP_at (M := MX1_digest) rfl dX1_digest_66 (Or.inr rfl)) rfl
theorem eX1_digest_67 : WP MX1_digest Q (67, [some (.ref p), l1, l2, l3], st, w, k, n) = WP MX1_digest Q (68, [some (.ref p), l1, l2, l3], .ref p :: st, w, k, n) := Eq.trans (WP_at (M := MX1_digest) rfl dX1_digest_67 (Or.inr rfl)) rfl
theorem eX1_digest_67N : WP MX1_digest Q (67, [some .null, l1, l2, l3], st, w, k, n) = WP MX1_digest Q (68, [some .null, l1, l2, l3], .null :: st, w, k, n) := Eq.trans (WP_at (M := MX1_digest) rfl dX1_digest_67 (Or.inr rfl)) rfl
theorem eX1_digest_68  : WP MX1_digest Q (68, [l0, l1, l2, l3], .ref p :: st, w, k, n) = (go w p 5 (fun _ => True) ∧ wt st ≤ 8 ∧ k + 24 ≤ 24 ∧ n + 96 ≤ 96 ∧ WP MX1_isSound (kx (fun v w' => WP MX1_digest Q (71, [l0, l1, l2, l3], v.toList ++ st, w', k + 24, n + 96)) (fun E w' => Q (.inr E) w')) (0, [some (.ref p), none, none], [], w, 0, 0)) := csV (As := []) (rest := st) MX1_isSound rfl dX1_digest_68 rfl (by decide) (by decide) (Nat.le_of_ble_eq_true rfl) rfl
theorem eX1_digest_71 {z0 : Int32} : WP MX1_digest Q (71, [l0, l1, l2, l3], .int z0 :: st, w, k, n) = (wt st ≤ 8 ∧ k + 0 ≤ 24 ∧ n + 0 ≤ 96 ∧ WP MX1_asNumber (kx (fun v w' => WP MX1_digest Q (74, [l0, l1, l2, l3], v.toList ++ st, w', k + 0, n + 0)) (fun E w' => Q (.inr E) w')) (0, [some (.int z0)], [], w, 0, 0)) := csS (As := [.int z0]) (rest := st) MX1_asNumber rfl dX1_digest_71 rfl (by decide) (by decide) (Nat.le_of_ble_eq_true rfl) rfl
theorem eX1_digest_74 : WP MX1_digest Q (74, [l0, l1, l2, l3], .int a :: st, w, k, n) = WP MX1_digest Q (75, [l0, l1, l2, l3], .long a.toInt64 :: st, w, k, n) := Eq.trans (WP_at (M := MX1_digest) rfl dX1_digest_74 (Or.inr rfl)) rfl
theorem eX1_digest_75 {z0 : Int64} {z1 : Int64} : WP MX1_digest Q (75, [l0, l1, l2, l3], .long z1 :: .long z0 :: st, w, k, n) = (wt st ≤ 8 ∧ k + 0 ≤ 24 ∧ n + 0 ≤ 96 ∧ WP MX1_with (kx (fun v w' => WP MX1_digest Q (78, [l0, l1, l2, l3], v.toList ++ st, w', k + 0, n + 0)) (fun E w' => Q (.inr E) w')) (0, [some (.long z0), none, some (.long z1), none], [], w, 0, 0)) := csS (As := [.long z0, .long z1]) (rest := st) MX1_with rfl dX1_digest_75 rfl (by decide) (by decide) (Nat.le_of_ble_eq_true rfl) rfl
theorem eX1_digest_78 : WP MX1_digest Q (78, [l0, l1, l2, l3], [.long x], w, k, n) = (k ≤ 24 ∧ n ≤ 96 ∧ Q (.inl (some (.long x))) w) := lret_e rfl dX1_digest_78 rfl
end
theorem wk_248 : (.constantLong RX1 217 (7783) : Jvm.Cond) ∈ WS := WS_at 248 (by decide +kernel) rfl
theorem wk_252 : (.code yX1_withHouse cX1_withHouse 6 (some .long) : Jvm.Cond) ∈ WS := WS_at 252 (by decide +kernel) rfl
theorem wk_249 : (.methodLink RX1 219 yX1_withHouse : Jvm.Cond) ∈ WS := WS_at 249 (by decide +kernel) rfl
theorem wk_251 : (.instanceMethod yX1_withHouse : Jvm.Cond) ∈ WS := WS_at 251 (by decide +kernel) rfl
theorem wk_13 : (.selects RX1 yX1_withHouse yX1_withHouse : Jvm.Cond) ∈ WS := WS_at 13 (by decide +kernel) rfl
theorem wk_271 : (.code yX1_withNumber cX1_withNumber 7 (some .long) : Jvm.Cond) ∈ WS := WS_at 271 (by decide +kernel) rfl
theorem wk_268 : (.methodLink RX1 223 yX1_withNumber : Jvm.Cond) ∈ WS := WS_at 268 (by decide +kernel) rfl
theorem wk_270 : (.instanceMethod yX1_withNumber : Jvm.Cond) ∈ WS := WS_at 270 (by decide +kernel) rfl
theorem wk_16 : (.selects RX1 yX1_withNumber yX1_withNumber : Jvm.Cond) ∈ WS := WS_at 16 (by decide +kernel) rfl
theorem wk_290 : (.code yX1_withCard cX1_withCard 7 (some .long) : Jvm.Cond) ∈ WS := WS_at 290 (by decide +kernel) rfl
theorem wk_287 : (.methodLink RX1 227 yX1_withCard : Jvm.Cond) ∈ WS := WS_at 287 (by decide +kernel) rfl
theorem wk_289 : (.instanceMethod yX1_withCard : Jvm.Cond) ∈ WS := WS_at 289 (by decide +kernel) rfl
theorem wk_19 : (.selects RX1 yX1_withCard yX1_withCard : Jvm.Cond) ∈ WS := WS_at 19 (by decide +kernel) rfl
theorem wk_315 : (.code yX1_withWhichAndPile cX1_withWhichAndPile 6 (some .long) : Jvm.Cond) ∈ WS := WS_at 315 (by decide +kernel) rfl
theorem wk_312 : (.methodLink RX1 231 yX1_withWhichAndPile : Jvm.Cond) ∈ WS := WS_at 312 (by decide +kernel) rfl
theorem wk_314 : (.instanceMethod yX1_withWhichAndPile : Jvm.Cond) ∈ WS := WS_at 314 (by decide +kernel) rfl
theorem wk_23 : (.selects RX1 yX1_withWhichAndPile yX1_withWhichAndPile : Jvm.Cond) ∈ WS := WS_at 23 (by decide +kernel) rfl
theorem wk_136 : (.code yX1_isSound cX1_isSound 3 (some .boolean) : Jvm.Cond) ∈ WS := WS_at 136 (by decide +kernel) rfl
theorem wk_331 : (.methodLink RX1 234 yX1_isSound : Jvm.Cond) ∈ WS := WS_at 331 (by decide +kernel) rfl
theorem wk_134 : (.instanceMethod yX1_isSound : Jvm.Cond) ∈ WS := WS_at 134 (by decide +kernel) rfl
theorem wk_135 : (.selects RX1 yX1_isSound yX1_isSound : Jvm.Cond) ∈ WS := WS_at 135 (by decide +kernel) rfl
theorem vMX1_digest {l : Launch} (hl : l.stackTraces = false) (G : GT) : vM l G MX1_digest := ⟨fun i c j h => lookup_all (l := MX1_digest.fld) (P := fun i e => vFld RX1 i e.1 e.2) (all_c (vF_RX1_9) (all_c (vF_RX1_15) (all_n))) i (c, j) h, fun i c fs h => lookup_all (l := MX1_digest.new) (P := fun i e => vNew RX1 i e.1 e.2) (all_n) i (c, fs) h, lookup_all (l := MX1_digest.anew) (P := fun i e => vANew RX1 i e) (all_n), lookup_all (l := MX1_digest.lng) (P := fun i e => Jvm.Cond.constantLong RX1 i e ∈ WS) (all_c (wk_248) (all_n)), lookup_all (l := MX1_digest.thr) (P := fun i e => vThr RX1 cX1_digest i e) (all_n), fun h => absurd rfl h, lookup_all (l := MX1_digest.cal) (P := fun i e => vCal l G RX1 i e) (all_c (⟨cX1_withHouse, 6, some .long, fun y hy => by subst hy; exact ⟨by decide, wk_252, okX1_withHouse hl, wk_59, ⟨by decide, by decide⟩, ⟨by decide +kernel, wk_249, wk_251, wk_13, (RX1, TX1, 7), rfl, rfl⟩⟩⟩) (all_c (⟨cX1_withNumber, 7, some .long, fun y hy => by subst hy; exact ⟨by decide, wk_271, okX1_withNumber hl, wk_59, ⟨by decide, by decide⟩, ⟨by decide +kernel, wk_268, wk_270, wk_16, (RX1, TX1, 7), rfl, rfl⟩⟩⟩) (all_c (⟨cX1_withCard, 7, some .long, fun y hy => by subst hy; exact ⟨by decide, wk_290, okX1_withCard hl, wk_59, ⟨by decide, by decide⟩, ⟨by decide +kernel, wk_287, wk_289, wk_19, (RX1, TX1, 7), rfl, rfl⟩⟩⟩) (all_c (⟨cX1_withWhichAndPile, 6, some .long, fun y hy => by subst hy; exact ⟨by decide, wk_315, okX1_withWhichAndPile hl, wk_59, ⟨by decide, by decide⟩, ⟨by decide +kernel, wk_312, wk_314, wk_23, (RX1, TX1, 7), rfl, rfl⟩⟩⟩) (all_c (⟨cX1_isSound, 3, some .boolean, fun y hy => by subst hy; exact ⟨by decide, wk_136, okX1_isSound hl, wk_59, ⟨by decide, by decide⟩, ⟨by decide +kernel, wk_331, wk_134, wk_135, (RX1, TX1, 7), rfl, rfl⟩⟩⟩) (all_c (⟨cX1_asNumber, 1, some .int, fun y hy => by subst hy; exact ⟨by decide, wk_263, okX1_asNumber hl, wk_59, ⟨by decide, by decide⟩, ⟨by decide +kernel, wk_261, wk_262⟩⟩⟩) (all_c (⟨cX1_with, 4, some .long, fun y hy => by subst hy; exact ⟨by decide, wk_266, okX1_with hl, wk_59, ⟨by decide, by decide⟩, ⟨by decide +kernel, wk_264, wk_265⟩⟩⟩) (all_n))))))))⟩
theorem okX1_digest {l : Launch} (hl : l.stackTraces = false) {G : GT} : ∀ (args : List Value) (w : Hw) (S : Ot → Hw → Prop), spOf MX1_digest args w S → CX l G yX1_digest (.code yX1_digest cX1_digest 4 (some .long)) 7 24 96 args w S := CX_sp (M := MX1_digest) (y := yX1_digest) hl (by decide) rfl (vMX1_digest hl G) (fun h => by cases h)
