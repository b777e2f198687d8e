/-! 69.law05.lean.txt -/
section
/-! RangecardLaw.whichValid(LRangecard;IILRangecardLaw$Out;)I -/
theorem dL_whichValid_0 : decode cL_whichValid 0 = .ok (.aload_n 3, 1) := by decide +kernel
theorem dL_whichValid_1 : decode cL_whichValid 1 = .ok (.aload_n 0, 1) := by decide +kernel
theorem dL_whichValid_2 : decode cL_whichValid 2 = .ok (.iload_n 1, 1) := by decide +kernel
theorem dL_whichValid_3 : decode cL_whichValid 3 = .ok (.iload_n 2, 1) := by decide +kernel
theorem dL_whichValid_4 : decode cL_whichValid 4 = .ok (.invokevirtual 122, 3) := by decide +kernel
theorem dL_whichValid_7 : decode cL_whichValid 7 = .ok (.i2l, 1) := by decide +kernel
theorem dL_whichValid_8 : decode cL_whichValid 8 = .ok (.putfield 13, 3) := by decide +kernel
theorem dL_whichValid_11 : decode cL_whichValid 11 = .ok (.goto 11, 3) := by decide +kernel
theorem dL_whichValid_14 : decode cL_whichValid 14 = .ok (.astore 4, 2) := by decide +kernel
theorem dL_whichValid_16 : decode cL_whichValid 16 = .ok (.iconst 1, 1) := by decide +kernel
theorem dL_whichValid_17 : decode cL_whichValid 17 = .ok (.ireturn, 1) := by decide +kernel
theorem dL_whichValid_18 : decode cL_whichValid 18 = .ok (.astore 4, 2) := by decide +kernel
theorem dL_whichValid_20 : decode cL_whichValid 20 = .ok (.iconst 2, 1) := by decide +kernel
theorem dL_whichValid_21 : decode cL_whichValid 21 = .ok (.ireturn, 1) := by decide +kernel
theorem dL_whichValid_22 : decode cL_whichValid 22 = .ok (.iconst 0, 1) := by decide +kernel
theorem dL_whichValid_23 : decode cL_whichValid 23 = .ok (.ireturn, 1) := by decide +kernel
def ML_whichValid (g : RO) : MT := ((RL, cL_whichValid, 5, 9, 2, 12, false, some .int), [(13, 6, 0)], [], [], [], [], 0, [(122, 2, 3, 5, 8, (fun _ _ => 2), (fun _ _ => 12), yX1_whichValid, spOf (MX1_whichValid g))], [], [], 0, [(0, 11, 14, 19), (0, 11, 18, 74)], [(19, "java/lang/IndexOutOfBoundsException"), (74, "java/lang/IllegalStateException")], g)
section
variable {g : RO} {Q : Ot → Hw → Prop} {st : List Value} {w : Hw} {k n p q : Nat} {a b : Int32} {x y : Int64} {u v : Value} {l0 l1 l2 l3 l4 : Option Value}
theorem eL_whichValid_0 : WP (ML_whichValid g) Q (0, [l0, l1, l2, some (.ref p), l4], st, w, k, n) = WP (ML_whichValid g) Q (1, [l0, l1, l2, some (.ref p), l4], .ref p :: st, w, k, n) := Eq.trans (WP_at (M := (ML_whichValid g)) rfl dL_whichValid_0 (Or.inr rfl)) rfl
theorem eL_whichValid_0N : WP (ML_whichValid g) Q (0, [l0, l1, l2, some .null, l4], st, w, k, n) = WP (ML_whichValid g) Q (1, [l0, l1, l2, some .null, l4], .null :: st, w, k, n) := Eq.trans (WP_at (M := (ML_whichValid g)) rfl dL_whichValid_0 (Or.inr rfl)) rfl
theorem eL_whichValid_1 : WP (ML_whichValid g) Q (1, [some (.ref p), l1, l2, l3, l4], st, w, k, n) = WP (ML_whichValid g) Q (2, [some (.ref p), l1, l2, l3, l4], .ref p :: st, w, k, n) := Eq.trans (WP_at (M := (ML_whichValid g)) rfl dL_whichValid_1 (Or.inr rfl)) rfl
theorem eL_whichValid_1N : WP (ML_whichValid g) Q (1, [some .null, l1, l2, l3, l4], st, w, k, n) = WP (ML_whichValid g) Q (2, [some .null, l1, l2, l3, l4], .null :: st, w, k, n) := Eq.trans (WP_at (M := (ML_whichValid g)) rfl dL_whichValid_1 (Or.inr rfl)) rfl
theorem eL_whichValid_2 : WP (ML_whichValid g) Q (2, [l0, some (.int a), l2, l3, l4], st, w, k, n) = WP (ML_whichValid g) Q (3, [l0, some (.int a), l2, l3, l4], .int a :: st, w, k, n) := Eq.trans (WP_at (M := (ML_whichValid g)) rfl dL_whichValid_2 (Or.inr rfl)) rfl
theorem eL_whichValid_3 : WP (ML_whichValid g) Q (3, [l0, l1, some (.int a), l3, l4], st, w, k, n) = WP (ML_whichValid g) Q (4, [l0, l1, some (.int a), l3, l4], .int a :: st, w, k, n) := Eq.trans (WP_at (M := (ML_whichValid g)) rfl dL_whichValid_3 (Or.inr rfl)) rfl
theorem eL_whichValid_4 {z0 : Int32} {z1 : Int32} : WP (ML_whichValid g) Q (4, [l0, l1, l2, l3, l4], .int z1 :: .int z0 :: .ref p :: st, w, k, n) = (go (rd g w p) 5 (fun _ => True) ∧ wt st ≤ 8 ∧ k + 2 ≤ 2 ∧ n + 12 ≤ 12 ∧ WP (MX1_whichValid g) (kx (fun v w' => WP (ML_whichValid g) Q (7, [l0, l1, l2, l3, l4], v.toList ++ st, w', k + 2, n + 12)) (fun E w' => hgo (ML_whichValid g) Q (WP (ML_whichValid g) Q) 4 [l0, l1, l2, l3, l4] E w' (k + 2) (n + 12))) (0, [some (.ref p), some (.int z0), some (.int z1)], [], w, 0, 0)) := csVH (M := (ML_whichValid g)) (mc := (fun _ _ => 2)) (ms := (fun _ _ => 12)) (As := [.int z0, .int z1]) (rest := st) (MX1_whichValid g) rfl dL_whichValid_4 (by exact fun h => nomatch (show (none : Option Nat) = some 11 from h)) (by exact fun h => nomatch (show (none : Option Nat) = some 15 from h)) rfl rfl (by decide) (Nat.le_of_ble_eq_true rfl) (Nat.le_of_ble_eq_true rfl) rfl
theorem eL_whichValid_7 : WP (ML_whichValid g) Q (7, [l0, l1, l2, l3, l4], .int a :: st, w, k, n) = WP (ML_whichValid g) Q (8, [l0, l1, l2, l3, l4], .long a.toInt64 :: st, w, k, n) := Eq.trans (WP_at (M := (ML_whichValid g)) rfl dL_whichValid_7 (Or.inr rfl)) rfl
theorem eL_whichValid_8 : WP (ML_whichValid g) Q (8, [l0, l1, l2, l3, l4], v :: .ref p :: st, w, k, n) = go (w p) 6 fun fs => 0 < fs.length ∧ (narrow (.long) v = v ∧ fits (.long) v = true) ∧ WP (ML_whichValid g) Q (11, [l0, l1, l2, l3, l4], st, upw w p (.inr (6, fs.set 0 v)), k, n) := put_e (q := (RX2, TX2, 2)) rfl dL_whichValid_8 rfl rfl (tyX2_ok 0 (by decide)) (Or.inl rfl)
theorem eL_whichValid_11 : WP (ML_whichValid g) Q (11, [l0, l1, l2, l3, l4], st, w, k, n) = WP (ML_whichValid g) Q (22, [l0, l1, l2, l3, l4], st, w, k, n) := goto_e rfl dL_whichValid_11 (by decide)
theorem eL_whichValid_14 : WP (ML_whichValid g) Q (14, [l0, l1, l2, l3, l4], .ref p :: st, w, k, n) = WP (ML_whichValid g) Q (16, [l0, l1, l2, nl l3, some (.ref p)], st, w, k, n) := by rw [WP_at (M := (ML_whichValid g)) rfl dL_whichValid_14 (Or.inr rfl)]; exact and_t (Nat.le_of_ble_eq_true rfl)
theorem eL_whichValid_14N : WP (ML_whichValid g) Q (14, [l0, l1, l2, l3, l4], .null :: st, w, k, n) = WP (ML_whichValid g) Q (16, [l0, l1, l2, nl l3, some (.null)], st, w, k, n) := by rw [WP_at (M := (ML_whichValid g)) rfl dL_whichValid_14 (Or.inr rfl)]; exact and_t (Nat.le_of_ble_eq_true rfl)
theorem eL_whichValid_16 : WP (ML_whichValid g) Q (16, [l0, l1, l2, l3, l4], st, w, k, n) = WP (ML_whichValid g) Q (17, [l0, l1, l2, l3, l4], .int 1 :: st, w, k, n) := iconst_e rfl dL_whichValid_16 (by decide)
theorem eL_whichValid_17 : WP (ML_whichValid g) Q (17, [l0, l1, l2, l3, l4], [.int a], w, k, n) = (k ≤ 2 ∧ n ≤ 12 ∧ Q (.inl (some (.int a))) w) := iretI_e rfl dL_whichValid_17 rfl
theorem eL_whichValid_18 : WP (ML_whichValid g) Q (18, [l0, l1, l2, l3, l4], .ref p :: st, w, k, n) = WP (ML_whichValid g) Q (20, [l0, l1, l2, nl l3, some (.ref p)], st, w, k, n) := by rw [WP_at (M := (ML_whichValid g)) rfl dL_whichValid_18 (Or.inr rfl)]; exact and_t (Nat.le_of_ble_eq_true rfl)
theorem eL_whichValid_18N : WP (ML_whichValid g) Q (18, [l0, l1, l2, l3, l4], .null :: st, w, k, n) = WP (ML_whichValid g) Q (20, [l0, l1, l2, nl l3, some (.null)], st, w, k, n) := by rw [WP_at (M := (ML_whichValid g)) rfl dL_whichValid_18 (Or.inr rfl)]; exact and_t (Nat.le_of_ble_eq_true rfl)
theorem eL_whichValid_20 : WP (ML_whichValid g) Q (20, [l0, l1, l2, l3, l4], st, w, k, n) = WP (ML_whichValid g) Q (21, [l0, l1, l2, l3, l4], .int 2 :: st, w, k, n) := iconst_e rfl dL_whichValid_20 (by decide)
theorem eL_whichValid_21 : WP (ML_whichValid g) Q (21, [l0, l1, l2, l3, l4], [.int a], w, k, n) = (k ≤ 2 ∧ n ≤ 12 ∧ Q (.inl (some (.int a))) w) := iretI_e rfl dL_whichValid_21 rfl
theorem eL_whichValid_22 : WP (ML_whichValid g) Q (22, [l0, l1, l2, l3, l4], st, w, k, n) = WP (ML_whichValid g) Q (23, [l0, l1, l2, l3, l4], .int 0 :: st, w, k, n) := iconst_e rfl dL_whichValid_22 (by decide)
theorem eL_whichValid_23 : WP (ML_whichValid g) Q (23, [l0, l1, l2, l3, l4], [.int a], w, k, n) = (k ≤ 2 ∧ n ≤ 12 ∧ Q (.inl (some (.int a))) w) := iretI_e rfl dL_whichValid_23 rfl
end
theorem wk_1005 : (.code yX1_whichValid cX1_whichValid 3 (some .int) : Jvm.Cond) ∈ WS := WS_t4 227 rfl rfl
theorem wk_1002 : (.methodLink RL 122 yX1_whichValid : Jvm.Cond) ∈ WS := WS_t4 224 rfl rfl
theorem wk_1003 : (.instanceMethod yX1_whichValid : Jvm.Cond) ∈ WS := WS_t4 225 rfl rfl
theorem wk_1004 : (.selects RX1 yX1_whichValid yX1_whichValid : Jvm.Cond) ∈ WS := WS_t4 226 rfl rfl
theorem vML_whichValid {l : Launch} (hl : l.stackTraces = false) (G : GT) : vM l G (ML_whichValid (gg G)) := ⟨fun i c j h => lookup_all (l := (ML_whichValid (gg G)).fld) (P := fun i e => vFld RL i e.1 e.2) (all_c (vF_RL_13) (all_n)) i (c, j) h, fun i c fs h => lookup_all (l := (ML_whichValid (gg G)).new) (P := fun i e => vNew RL i e.1 e.2) (all_n) i (c, fs) h, lookup_all (l := (ML_whichValid (gg G)).anew) (P := fun i e => vANew RL i e) (all_n), lookup_all (l := (ML_whichValid (gg G)).lng) (P := fun i e => Jvm.Cond.constantLong RL i e ∈ WS) (all_n), lookup_all (l := (ML_whichValid (gg G)).thr) (P := fun i e => vThr RL cL_whichValid i e) (all_n), fun h => absurd rfl h, lookup_all (l := (ML_whichValid (gg G)).cal) (P := fun i e => vCal l G RL i e) (all_c (⟨cX1_whichValid, 3, some .int, fun y hy => by subst hy; exact ⟨by decide, ⟨_, wk_1005, okX1_whichValid hl, Or.inl ⟨Nat.ne_of_beq_eq_false rfl, rfl⟩⟩, wk_59, ⟨(by decide : yX1_whichValid.cls ≠ "java/lang/invoke/MethodHandle"), (by decide : yX1_whichValid.cls ≠ "java/lang/invoke/VarHandle")⟩, ⟨(by decide +kernel : (parseMethodDescriptor yX1_whichValid.desc).map (fun d => d.parameters.length + 1) = some 3), wk_1002, wk_1003, wk_1004, (RX1, TX1, 7), rfl, rfl⟩⟩⟩) (all_n)), lookup_all (l := (ML_whichValid (gg G)).stt) (P := fun i e => vStt G RL i e) (all_n), lookup_all (l := (ML_whichValid (gg G)).cst) (P := fun i e => vCst RL i e) (all_n), fun h => absurd rfl h, rfl, all_c (⟨"java/lang/IndexOutOfBoundsException", by decide, rfl, by decide, wk_348⟩) (all_c (⟨"java/lang/IllegalStateException", by decide, rfl, by decide, wk_869⟩) (all_n))⟩
theorem okL_whichValid {l : Launch} (hl : l.stackTraces = false) {G : GT} : ∀ (args : List Value) (w : Hw) (S : Ot → Hw → Prop), spOf (ML_whichValid (gg G)) args w S → CX l G yL_whichValid (.codeWith yL_whichValid cL_whichValid 5 (some .int) [(0, 11, 14, 19), (0, 11, 18, 74)]) 9 2 12 args w S := CX_spH (M := ML_whichValid (gg G)) (y := yL_whichValid) hl (by decide) rfl (vML_whichValid hl G) (fun h => by cases h)
/-! RangecardLaw.around(LRangecard;IIZLRangecardLaw$Out;)I -/
theorem dL_around_0 : decode cL_around 0 = .ok (.aload 4, 2) := by decide +kernel
theorem dL_around_2 : decode cL_around 2 = .ok (.aload_n 0, 1) := by decide +kernel
theorem dL_around_3 : decode cL_around 3 = .ok (.iload_n 1, 1) := by decide +kernel
theorem dL_around_4 : decode cL_around 4 = .ok (.iload_n 2, 1) := by decide +kernel
theorem dL_around_5 : decode cL_around 5 = .ok (.iload_n 3, 1) := by decide +kernel
theorem dL_around_6 : decode cL_around 6 = .ok (.invokevirtual 125, 3) := by decide +kernel
theorem dL_around_9 : decode cL_around 9 = .ok (.i2l, 1) := by decide +kernel
theorem dL_around_10 : decode cL_around 10 = .ok (.putfield 13, 3) := by decide +kernel
theorem dL_around_13 : decode cL_around 13 = .ok (.goto 15, 3) := by decide +kernel
theorem dL_around_16 : decode cL_around 16 = .ok (.astore 5, 2) := by decide +kernel
theorem dL_around_18 : decode cL_around 18 = .ok (.iconst 1, 1) := by decide +kernel
theorem dL_around_19 : decode cL_around 19 = .ok (.ireturn, 1) := by decide +kernel
theorem dL_around_20 : decode cL_around 20 = .ok (.astore 5, 2) := by decide +kernel
theorem dL_around_22 : decode cL_around 22 = .ok (.iconst 2, 1) := by decide +kernel
theorem dL_around_23 : decode cL_around 23 = .ok (.ireturn, 1) := by decide +kernel
theorem dL_around_24 : decode cL_around 24 = .ok (.astore 5, 2) := by decide +kernel
theorem dL_around_26 : decode cL_around 26 = .ok (.iconst 3, 1) := by decide +kernel
theorem dL_around_27 : decode cL_around 27 = .ok (.ireturn, 1) := by decide +kernel
theorem dL_around_28 : decode cL_around 28 = .ok (.iconst 0, 1) := by decide +kernel
theorem dL_around_29 : decode cL_around 29 = .ok (.ireturn, 1) := by decide +kernel
def ML_around (g : RO) : MT := ((RL, cL_around, 6, 9, 4, 24, false, some .int), [(13, 6, 0)], [], [], [], [], 0, [(125, 2, 4, 5, 8, (fun _ _ => 4), (fun _ _ => 24), yX1_around, spOf (MX1_around g))], [], [], 0, [(0, 13, 16, 19), (0, 13, 20, 28), (0, 13, 24, 74)], [(19, "java/lang/IndexOutOfBoundsException"), (28, "java/lang/IllegalArgumentException"), (74, "java/lang/IllegalStateException")], g)
section
variable {g : RO} {Q : Ot → Hw → Prop} {st : List Value} {w : Hw} {k n p q : Nat} {a b : Int32} {x y : Int64} {u v : Value} {l0 l1 l2 l3 l4 l5 : Option Value}
theorem eL_around_0 : WP (ML_around g) Q (0, [l0, l1, l2, l3, some (.ref p), l5], st, w, k, n) = WP (ML_around g) Q (2, [l0, l1, l2, l3, some (.ref p), l5], .ref p :: st, w, k, n) := Eq.trans (WP_at (M := (ML_around g)) rfl dL_around_0 (Or.inr rfl)) rfl
theorem eL_around_0N : WP (ML_around g) Q (0, [l0, l1, l2, l3, some .null, l5], st, w, k, n) = WP (ML_around g) Q (2, [l0, l1, l2, l3, some .null, l5], .null :: st, w, k, n) := Eq.trans (WP_at (M := (ML_around g)) rfl dL_around_0 (Or.inr rfl)) rfl
theorem eL_around_2 : WP (ML_around g) Q (2, [some (.ref p), l1, l2, l3, l4, l5], st, w, k, n) = WP (ML_around g) Q (3, [some (.ref p), l1, l2, l3, l4, l5], .ref p :: st, w, k, n) := Eq.trans (WP_at (M := (ML_around g)) rfl dL_around_2 (Or.inr rfl)) rfl
theorem eL_around_2N : WP (ML_around g) Q (2, [some .null, l1, l2, l3, l4, l5], st, w, k, n) = WP (ML_around g) Q (3, [some .null, l1, l2, l3, l4, l5], .null :: st, w, k, n) := Eq.trans (WP_at (M := (ML_around g)) rfl dL_around_2 (Or.inr rfl)) rfl
theorem eL_around_3 : WP (ML_around g) Q (3, [l0, some (.int a), l2, l3, l4, l5], st, w, k, n) = WP (ML_around g) Q (4, [l0, some (.int a), l2, l3, l4, l5], .int a :: st, w, k, n) := Eq.trans (WP_at (M := (ML_around g)) rfl dL_around_3 (Or.inr rfl)) rfl
theorem eL_around_4 : WP (ML_around g) Q (4, [l0, l1, some (.int a), l3, l4, l5], st, w, k, n) = WP (ML_around g) Q (5, [l0, l1, some (.int a), l3, l4, l5], .int a :: st, w, k, n) := Eq.trans (WP_at (M := (ML_around g)) rfl dL_around_4 (Or.inr rfl)) rfl
theorem eL_around_5 : WP (ML_around g) Q (5, [l0, l1, l2, some (.int a), l4, l5], st, w, k, n) = WP (ML_around g) Q (6, [l0, l1, l2, some (.int a), l4, l5], .int a :: st, w, k, n) := Eq.trans (WP_at (M := (ML_around g)) rfl dL_around_5 (Or.inr rfl)) rfl
theorem eL_around_6 {z0 : Int32} {z1 : Int32} {z2 : Int32} : WP (ML_around g) Q (6, [l0, l1, l2, l3, l4, l5], .int z2 :: .int z1 :: .int z0 :: .ref p :: st, w, k, n) = (go (rd g w p) 5 (fun _ => True) ∧ wt st ≤ 8 ∧ k + 4 ≤ 4 ∧ n + 24 ≤ 24 ∧ WP (MX1_around g) (kx (fun v w' => WP (ML_around g) Q (9, [l0, l1, l2, l3, l4, l5], v.toList ++ st, w', k + 4, n + 24)) (fun E w' => hgo (ML_around g) Q (WP (ML_around g) Q) 6 [l0, l1, l2, l3, l4, l5] E w' (k + 4) (n + 24))) (0, [some (.ref p), some (.int z0), some (.int z1), some (.int z2), none], [], w, 0, 0)) := csVH (M := (ML_around g)) (mc := (fun _ _ => 4)) (ms := (fun _ _ => 24)) (As := [.int z0, .int z1, .int z2]) (rest := st) (MX1_around g) rfl dL_around_6 (by exact fun h => nomatch (show (none : Option Nat) = some 11 from h)) (by exact fun h => nomatch (show (none : Option Nat) = some 15 from h)) rfl rfl (by decide) (Nat.le_of_ble_eq_true rfl) (Nat.le_of_ble_eq_true rfl) rfl
theorem eL_around_9 : WP (ML_around g) Q (9, [l0, l1, l2, l3, l4, l5], .int a :: st, w, k, n) = WP (ML_around g) Q (10, [l0, l1, l2, l3, l4, l5], .long a.toInt64 :: st, w, k, n) := Eq.trans (WP_at (M := (ML_around g)) rfl dL_around_9 (Or.inr rfl)) rfl
theorem eL_around_10 : WP (ML_around g) Q (10, [l0, l1, l2, l3, l4, l5], v :: .ref p :: st, w, k, n) = go (w p) 6 fun fs => 0 < fs.length ∧ (narrow (.long) v = v ∧ fits (.long) v = true) ∧ WP (ML_around g) Q (13, [l0, l1, l2, l3, l4, l5], st, upw w p (.inr (6, fs.set 0 v)), k, n) := put_e (q := (RX2, TX2, 2)) rfl dL_around_10 rfl rfl (tyX2_ok 0 (by decide)) (Or.inl rfl)
theorem eL_around_13 : WP (ML_around g) Q (13, [l0, l1, l2, l3, l4, l5], st, w, k, n) = WP (ML_around g) Q (28, [l0, l1, l2, l3, l4, l5], st, w, k, n) := goto_e rfl dL_around_13 (by decide)
theorem eL_around_16 : WP (ML_around g) Q (16, [l0, l1, l2, l3, l4, l5], .ref p :: st, w, k, n) = WP (ML_around g) Q (18, [l0, l1, l2, l3, nl l4, some (.ref p)], st, w, k, n) := by rw [WP_at (M := (ML_around g)) rfl dL_around_16 (Or.inr rfl)]; exact and_t (Nat.le_of_ble_eq_true rfl)
theorem eL_around_16N : WP (ML_around g) Q (16, [l0, l1, l2, l3, l4, l5], .null :: st, w, k, n) = WP (ML_around g) Q (18, [l0, l1, l2, l3, nl l4, some (.null)], st, w, k, n) := by rw [WP_at (M := (ML_around g)) rfl dL_around_16 (Or.inr rfl)]; exact and_t (Nat.le_of_ble_eq_true rfl)
theorem eL_around_18 : WP (ML_around g) Q (18, [l0, l1, l2, l3, l4, l5], st, w, k, n) = WP (ML_around g) Q (19, [l0, l1, l2, l3, l4, l5], .int 1 :: st, w, k, n) := iconst_e rfl dL_around_18 (by decide)
theorem eL_around_19 : WP (ML_around g) Q (19, [l0, l1, l2, l3, l4, l5], [.int a], w, k, n) = (k ≤ 4 ∧ n ≤ 24 ∧ Q (.inl (some (.int a))) w) := iretI_e rfl dL_around_19 rfl
theorem eL_around_20 : WP (ML_around g) Q (20, [l0, l1, l2, l3, l4, l5], .ref p :: st, w, k, n) = WP (ML_around g) Q (22, [l0, l1, l2, l3, nl l4, some (.ref p)], st, w, k, n) := by rw [WP_at (M := (ML_around g)) rfl dL_around_20 (Or.inr rfl)]; exact and_t (Nat.le_of_ble_eq_true rfl)
theorem eL_around_20N : WP (ML_around g) Q (20, [l0, l1, l2, l3, l4, l5], .null :: st, w, k, n) = WP (ML_around g) Q (22, [l0, l1, l2, l3, nl l4, some (.null)], st, w, k, n) := by rw [WP_at (M := (ML_around g)) rfl dL_around_20 (Or.inr rfl)]; exact and_t (Nat.le_of_ble_eq_true rfl)
theorem eL_around_22 : WP (ML_around g) Q (22, [l0, l1, l2, l3, l4, l5], st, w, k, n) = WP (ML_around g) Q (23, [l0, l1, l2, l3, l4, l5], .int 2 :: st, w, k, n) := iconst_e rfl dL_around_22 (by decide)
theorem eL_around_23 : WP (ML_around g) Q (23, [l0, l1, l2, l3, l4, l5], [.int a], w, k, n) = (k ≤ 4 ∧ n ≤ 24 ∧ Q (.inl (some (.int a))) w) := iretI_e rfl dL_around_23 rfl
theorem eL_around_24 : WP (ML_around g) Q (24, [l0, l1, l2, l3, l4, l5], .ref p :: st, w, k, n) = WP (ML_around g) Q (26, [l0, l1, l2, l3, nl l4, some (.ref p)], st, w, k, n) := by rw [WP_at (M := (ML_around g)) rfl dL_around_24 (Or.inr rfl)]; exact and_t (Nat.le_of_ble_eq_true rfl)
theorem eL_around_24N : WP (ML_around g) Q (24, [l0, l1, l2, l3, l4, l5], .null :: st, w, k, n) = WP (ML_around g) Q (26, [l0, l1, l2, l3, nl l4, some (.null)], st, w, k, n) := by rw [WP_at (M := (ML_around g)) rfl dL_around_24 (Or.inr rfl)]; exact and_t (Nat.le_of_ble_eq_true rfl)
theorem eL_around_26 : WP (ML_around g) Q (26, [l0, l1, l2, l3, l4, l5], st, w, k, n) = WP (ML_around g) Q (27, [l0, l1, l2, l3, l4, l5], .int 3 :: st, w, k, n) := iconst_e rfl dL_around_26 (by decide)
theorem eL_around_27 : WP (ML_around g) Q (27, [l0, l1, l2, l3, l4, l5], [.int a], w, k, n) = (k ≤ 4 ∧ n ≤ 24 ∧ Q (.inl (some (.int a))) w) := iretI_e rfl dL_around_27 rfl
theorem eL_around_28 : WP (ML_around g) Q (28, [l0, l1, l2, l3, l4, l5], st, w, k, n) = WP (ML_around g) Q (29, [l0, l1, l2, l3, l4, l5], .int 0 :: st, w, k, n) := iconst_e rfl dL_around_28 (by decide)
theorem eL_around_29 : WP (ML_around g) Q (29, [l0, l1, l2, l3, l4, l5], [.int a], w, k, n) = (k ≤ 4 ∧ n ≤ 24 ∧ Q (.inl (some (.int a))) w) := iretI_e rfl dL_around_29 rfl
end
theorem wk_1012 : (.code yX1_around cX1_around 5 (some .int) : Jvm.Cond) ∈ WS := WS_t4 234 rfl rfl
theorem wk_1009 : (.methodLink RL 125 yX1_around : Jvm.Cond) ∈ WS := WS_t4 231 rfl rfl
theorem wk_1010 : (.instanceMethod yX1_around : Jvm.Cond) ∈ WS := WS_t4 232 rfl rfl
theorem wk_1011 : (.selects RX1 yX1_around yX1_around : Jvm.Cond) ∈ WS := WS_t4 233 rfl rfl
theorem vML_around {l : Launch} (hl : l.stackTraces = false) (G : GT) : vM l G (ML_around (gg G)) := ⟨fun i c j h => lookup_all (l := (ML_around (gg G)).fld) (P := fun i e => vFld RL i e.1 e.2) (all_c (vF_RL_13) (all_n)) i (c, j) h, fun i c fs h => lookup_all (l := (ML_around (gg G)).new) (P := fun i e => vNew RL i e.1 e.2) (all_n) i (c, fs) h, lookup_all (l := (ML_around (gg G)).anew) (P := fun i e => vANew RL i e) (all_n), lookup_all (l := (ML_around (gg G)).lng) (P := fun i e => Jvm.Cond.constantLong RL i e ∈ WS) (all_n), lookup_all (l := (ML_around (gg G)).thr) (P := fun i e => vThr RL cL_around i e) (all_n), fun h => absurd rfl h, lookup_all (l := (ML_around (gg G)).cal) (P := fun i e => vCal l G RL i e) (all_c (⟨cX1_around, 5, some .int, fun y hy => by subst hy; exact ⟨by decide, ⟨_, wk_1012, okX1_around hl, Or.inl ⟨Nat.ne_of_beq_eq_false rfl, rfl⟩⟩, wk_59, ⟨(by decide : yX1_around.cls ≠ "java/lang/invoke/MethodHandle"), (by decide : yX1_around.cls ≠ "java/lang/invoke/VarHandle")⟩, ⟨(by decide +kernel : (parseMethodDescriptor yX1_around.desc).map (fun d => d.parameters.length + 1) = some 4), wk_1009, wk_1010, wk_1011, (RX1, TX1, 7), rfl, rfl⟩⟩⟩) (all_n)), lookup_all (l := (ML_around (gg G)).stt) (P := fun i e => vStt G RL i e) (all_n), lookup_all (l := (ML_around (gg G)).cst) (P := fun i e => vCst RL i e) (all_n), fun h => absurd rfl h, rfl, all_c (⟨"java/lang/IndexOutOfBoundsException", by decide, rfl, by decide, wk_348⟩) (all_c (⟨"java/lang/IllegalArgumentException", by decide, rfl, by decide, wk_435⟩) (all_c (⟨"java/lang/IllegalStateException", by decide, rfl, by decide, wk_869⟩) (all_n)))⟩
theorem okL_around {l : Launch} (hl : l.stackTraces = false) {G : GT} : ∀ (args : List Value) (w : Hw) (S : Ot → Hw → Prop), spOf (ML_around (gg G)) args w S → CX l G yL_around (.codeWith yL_around cL_around 6 (some .int) [(0, 13, 16, 19), (0, 13, 20, 28), (0, 13, 24, 74)]) 9 4 24 args w S := CX_spH (M := ML_around (gg G)) (y := yL_around) hl (by decide) rfl (vML_around hl G) (fun h => by cases h)
/-! RangecardLaw.count(LRangecard;IIILRangecardLaw$Out;)I -/
theorem dL_count_0 : decode cL_count 0 = .ok (.aload 4, 2) := by decide +kernel
theorem dL_count_2 : decode cL_count 2 = .ok (.aload_n 0, 1) := by decide +kernel
theorem dL_count_3 : decode cL_count 3 = .ok (.iload_n 1, 1) := by decide +kernel
theorem dL_count_4 : decode cL_count 4 = .ok (.iload_n 2, 1) := by decide +kernel
theorem dL_count_5 : decode cL_count 5 = .ok (.iload_n 3, 1) := by decide +kernel
theorem dL_count_6 : decode cL_count 6 = .ok (.invokevirtual 128, 3) := by decide +kernel
theorem dL_count_9 : decode cL_count 9 = .ok (.i2l, 1) := by decide +kernel
theorem dL_count_10 : decode cL_count 10 = .ok (.putfield 13, 3) := by decide +kernel
theorem dL_count_13 : decode cL_count 13 = .ok (.goto 15, 3) := by decide +kernel
theorem dL_count_16 : decode cL_count 16 = .ok (.astore 5, 2) := by decide +kernel
theorem dL_count_18 : decode cL_count 18 = .ok (.iconst 1, 1) := by decide +kernel
theorem dL_count_19 : decode cL_count 19 = .ok (.ireturn, 1) := by decide +kernel
theorem dL_count_20 : decode cL_count 20 = .ok (.astore 5, 2) := by decide +kernel
theorem dL_count_22 : decode cL_count 22 = .ok (.iconst 2, 1) := by decide +kernel
theorem dL_count_23 : decode cL_count 23 = .ok (.ireturn, 1) := by decide +kernel
theorem dL_count_24 : decode cL_count 24 = .ok (.astore 5, 2) := by decide +kernel
theorem dL_count_26 : decode cL_count 26 = .ok (.iconst 3, 1) := by decide +kernel
theorem dL_count_27 : decode cL_count 27 = .ok (.ireturn, 1) := by decide +kernel
theorem dL_count_28 : decode cL_count 28 = .ok (.iconst 0, 1) := by decide +kernel
theorem dL_count_29 : decode cL_count 29 = .ok (.ireturn, 1) := by decide +kernel
def ML_count (g : RO) : MT := ((RL, cL_count, 6, 9, 4, 24, false, some .int), [(13, 6, 0)], [], [], [], [], 0, [(128, 2, 4, 5, 8, (fun _ _ => 4), (fun _ _ => 24), yX1_count, spOf (MX1_count g))], [], [], 0, [(0, 13, 16, 19), (0, 13, 20, 28), (0, 13, 24, 74)], [(19, "java/lang/IndexOutOfBoundsException"), (28, "java/lang/IllegalArgumentException"), (74, "java/lang/IllegalStateException")], g)
section
variable {g : RO} {Q : Ot → Hw → Prop} {st : List Value} {w : Hw} {k n p q : Nat} {a b : Int32} {x y : Int64} {u v : Value} {l0 l1 l2 l3 l4 l5 : Option Value}
theorem eL_count_0 : WP (ML_count g) Q (0, [l0, l1, l2, l3, some (.ref p), l5], st, w, k, n) = WP (ML_count g) Q (2, [l0, l1, l2, l3, some (.ref p), l5], .ref p :: st, w, k, n) := Eq.trans (WP_at (M := (ML_count g)) rfl dL_count_0 (Or.inr rfl)) rfl
theorem eL_count_0N : WP (ML_count g) Q (0, [l0, l1, l2, l3, some .null, l5], st, w, k, n) = WP (ML_count g) Q (2, [l0, l1, l2, l3, some .null, l5], .null :: st, w, k, n) := Eq.trans (WP_at (M := (ML_count g)) rfl dL_count_0 (Or.inr rfl)) rfl
theorem eL_count_2 : WP (ML_count g) Q (2, [some (.ref p), l1, l2, l3, l4, l5], st, w, k, n) = WP (ML_count g) Q (3, [some (.ref p), l1, l2, l3, l4, l5], .ref p :: st, w, k, n) := Eq.trans (WP_at (M := (ML_count g)) rfl dL_count_2 (Or.inr rfl)) rfl
theorem eL_count_2N : WP (ML_count g) Q (2, [some .null, l1, l2, l3, l4, l5], st, w, k, n) = WP (ML_count g) Q (3, [some .null, l1, l2, l3, l4, l5], .null :: st, w, k, n) := Eq.trans (WP_at (M := (ML_count g)) rfl dL_count_2 (Or.inr rfl)) rfl
theorem eL_count_3 : WP (ML_count g) Q (3, [l0, some (.int a), l2, l3, l4, l5], st, w, k, n) = WP (ML_count g) Q (4, [l0, some (.int a), l2, l3, l4, l5], .int a :: st, w, k, n) := Eq.trans (WP_at (M := (ML_count g)) rfl dL_count_3 (Or.inr rfl)) rfl
theorem eL_count_4 : WP (ML_count g) Q (4, [l0, l1, some (.int a), l3, l4, l5], st, w, k, n) = WP (ML_count g) Q (5, [l0, l1, some (.int a), l3, l4, l5], .int a :: st, w, k, n) := Eq.trans (WP_at (M := (ML_count g)) rfl dL_count_4 (Or.inr rfl)) rfl
theorem eL_count_5 : WP (ML_count g) Q (5, [l0, l1, l2, some (.int a), l4, l5], st, w, k, n) = WP (ML_count g) Q (6, [l0, l1, l2, some (.int a), l4, l5], .int a :: st, w, k, n) := Eq.trans (WP_at (M := (ML_count g)) rfl dL_count_5 (Or.inr rfl)) rfl
theorem eL_count_6 {z0 : Int32} {z1 : Int32} {z2 : Int32} : WP (ML_count g) Q (6, [l0, l1, l2, l3, l4, l5], .int z2 :: .int z1 :: .int z0 :: .ref p :: st, w, k, n) = (go (rd g w p) 5 (fun _ => True) ∧ wt st ≤ 8 ∧ k + 4 ≤ 4 ∧ n + 24 ≤ 24 ∧ WP (MX1_count g) (kx (fun v w' => WP (ML_count g) Q (9, [l0, l1, l2, l3, l4, l5], v.toList ++ st, w', k + 4, n + 24)) (fun E w' => hgo (ML_count g) Q (WP (ML_count g) Q) 6 [l0, l1, l2, l3, l4, l5] E w' (k + 4) (n + 24))) (0, [some (.ref p), some (.int z0), some (.int z1), some (.int z2), none, none, none], [], w, 0, 0)) := csVH (M := (ML_count g)) (mc := (fun _ _ => 4)) (ms := (fun _ _ => 24)) (As := [.int z0, .int z1, .int z2]) (rest := st) (MX1_count g) rfl dL_count_6 (by exact fun h => nomatch (show (none : Option Nat) = some 11 from h)) (by exact fun h => nomatch (show (none : Option Nat) = some 15 from h)) rfl rfl (by decide) (Nat.le_of_ble_eq_true rfl) (Nat.le_of_ble_eq_true rfl) rfl
theorem eL_count_9 : WP (ML_count g) Q (9, [l0, l1, l2, l3, l4, l5], .int a :: st, w, k, n) = WP (ML_count g) Q (10, [l0, l1, l2, l3, l4, l5], .long a.toInt64 :: st, w, k, n) := Eq.trans (WP_at (M := (ML_count g)) rfl dL_count_9 (Or.inr rfl)) rfl
theorem eL_count_10 : WP (ML_count g) Q (10, [l0, l1, l2, l3, l4, l5], v :: .ref p :: st, w, k, n) = go (w p) 6 fun fs => 0 < fs.length ∧ (narrow (.long) v = v ∧ fits (.long) v = true) ∧ WP (ML_count g) Q (13, [l0, l1, l2, l3, l4, l5], st, upw w p (.inr (6, fs.set 0 v)), k, n) := put_e (q := (RX2, TX2, 2)) rfl dL_count_10 rfl rfl (tyX2_ok 0 (by decide)) (Or.inl rfl)
theorem eL_count_13 : WP (ML_count g) Q (13, [l0, l1, l2, l3, l4, l5], st, w, k, n) = WP (ML_count g) Q (28, [l0, l1, l2, l3, l4, l5], st, w, k, n) := goto_e rfl dL_count_13 (by decide)
theorem eL_count_16 : WP (ML_count g) Q (16, [l0, l1, l2, l3, l4, l5], .ref p :: st, w, k, n) = WP (ML_count g) Q (18, [l0, l1, l2, l3, nl l4, some (.ref p)], st, w, k, n) := by rw [WP_at (M := (ML_count g)) rfl dL_count_16 (Or.inr rfl)]; exact and_t (Nat.le_of_ble_eq_true rfl)
theorem eL_count_16N : WP (ML_count g) Q (16, [l0, l1, l2, l3, l4, l5], .null :: st, w, k, n) = WP (ML_count g) Q (18, [l0, l1, l2, l3, nl l4, some (.null)], st, w, k, n) := by rw [WP_at (M := (ML_count g)) rfl dL_count_16 (Or.inr rfl)]; exact and_t (Nat.le_of_ble_eq_true rfl)
theorem eL_count_18 : WP (ML_count g) Q (18, [l0, l1, l2, l3, l4, l5], st, w, k, n) = WP (ML_count g) Q (19, [l0, l1, l2, l3, l4, l5], .int 1 :: st, w, k, n) := iconst_e rfl dL_count_18 (by decide)
theorem eL_count_19 : WP (ML_count g) Q (19, [l0, l1, l2, l3, l4, l5], [.int a], w, k, n) = (k ≤ 4 ∧ n ≤ 24 ∧ Q (.inl (some (.int a))) w) := iretI_e rfl dL_count_19 rfl
theorem eL_count_20 : WP (ML_count g) Q (20, [l0, l1, l2, l3, l4, l5], .ref p :: st, w, k, n) = WP (ML_count g) Q (22, [l0, l1, l2, l3, nl l4, some (.ref p)], st, w, k, n) := by rw [WP_at (M := (ML_count g)) rfl dL_count_20 (Or.inr rfl)]; exact and_t (Nat.le_of_ble_eq_true rfl)
theorem eL_count_20N : WP (ML_count g) Q (20, [l0, l1, l2, l3, l4, l5], .null :: st, w, k, n) = WP (ML_count g) Q (22, [l0, l1, l2, l3, nl l4, some (.null)], st, w, k, n) := by rw [WP_at (M := (ML_count g)) rfl dL_count_20 (Or.inr rfl)]; exact and_t (Nat.le_of_ble_eq_true rfl)
theorem eL_count_22 : WP (ML_count g) Q (22, [l0, l1, l2, l3, l4, l5], st, w, k, n) = WP (ML_count g) Q (23, [l0, l1, l2, l3, l4, l5], .int 2 :: st, w, k, n) := iconst_e rfl dL_count_22 (by decide)
theorem eL_count_23 : WP (ML_count g) Q (23, [l0, l1, l2, l3, l4, l5], [.int a], w, k, n) = (k ≤ 4 ∧ n ≤ 24 ∧ Q (.inl (some (.int a))) w) := iretI_e rfl dL_count_23 rfl
theorem eL_count_24 : WP (ML_count g) Q (24, [l0, l1, l2, l3, l4, l5], .ref p :: st, w, k, n) = WP (ML_count g) Q (26, [l0, l1, l2, l3, nl l4, some (.ref p)], st, w, k, n) := by rw [WP_at (M := (ML_count g)) rfl dL_count_24 (Or.inr rfl)]; exact and_t (Nat.le_of_ble_eq_true rfl)
theorem eL_count_24N : WP (ML_count g) Q (24, [l0, l1, l2, l3, l4, l5], .null :: st, w, k, n) = WP (ML_count g) Q (26, [l0, l1, l2, l3, nl l4, some (.null)], st, w, k, n) := by rw [WP_at (M := (ML_count g)) rfl dL_count_24 (Or.inr rfl)]; exact and_t (Nat.le_of_ble_eq_true rfl)
theorem eL_count_26 : WP (ML_count g) Q (26, [l0, l1, l2, l3, l4, l5], st, w, k, n) = WP (ML_count g) Q (27, [l0, l1, l2, l3, l4, l5], .int 3 :: st, w, k, n) := iconst_e rfl dL_count_26 (by decide)
theorem eL_count_27 : WP (ML_count g) Q (27, [l0, l1, l2, l3, l4, l5], [.int a], w, k, n) = (k ≤ 4 ∧ n ≤ 24 ∧ Q (.inl (some (.int a))) w) := iretI_e rfl dL_count_27 rfl
theorem eL_count_28 : WP (ML_count g) Q (28, [l0, l1, l2, l3, l4, l5], st, w, k, n) = WP (ML_count g) Q (29, [l0, l1, l2, l3, l4, l5], .int 0 :: st, w, k, n) := iconst_e rfl dL_count_28 (by decide)
theorem eL_count_29 : WP (ML_count g) Q (29, [l0, l1, l2, l3, l4, l5], [.int a], w, k, n) = (k ≤ 4 ∧ n ≤ 24 ∧ Q (.inl (some (.int a))) w) := iretI_e rfl dL_count_29 rfl
end
theorem wk_1019 : (.code yX1_count cX1_count 7 (some .int) : Jvm.Cond) ∈ WS := WS_t5 1 rfl rfl
theorem wk_1016 : (.methodLink RL 128 yX1_count : Jvm.Cond) ∈ WS := WS_t4 238 rfl rfl
theorem wk_1017 : (.instanceMethod yX1_count : Jvm.Cond) ∈ WS := WS_t4 239 rfl rfl
theorem wk_1018 : (.selects RX1 yX1_count yX1_count : Jvm.Cond) ∈ WS := WS_t5 0 rfl rfl
theorem vML_count {l : Launch} (hl : l.stackTraces = false) (G : GT) : vM l G (ML_count (gg G)) := ⟨fun i c j h => lookup_all (l := (ML_count (gg G)).fld) (P := fun i e => vFld RL i e.1 e.2) (all_c (vF_RL_13) (all_n)) i (c, j) h, fun i c fs h => lookup_all (l := (ML_count (gg G)).new) (P := fun i e => vNew RL i e.1 e.2) (all_n) i (c, fs) h, lookup_all (l := (ML_count (gg G)).anew) (P := fun i e => vANew RL i e) (all_n), lookup_all (l := (ML_count (gg G)).lng) (P := fun i e => Jvm.Cond.constantLong RL i e ∈ WS) (all_n), lookup_all (l := (ML_count (gg G)).thr) (P := fun i e => vThr RL cL_count i e) (all_n), fun h => absurd rfl h, lookup_all (l := (ML_count (gg G)).cal) (P := fun i e => vCal l G RL i e) (all_c (⟨cX1_count, 7, some .int, fun y hy => by subst hy; exact ⟨by decide, ⟨_, wk_1019, okX1_count hl, Or.inl ⟨Nat.ne_of_beq_eq_false rfl, rfl⟩⟩, wk_59, ⟨(by decide : yX1_count.cls ≠ "java/lang/invoke/MethodHandle"), (by decide : yX1_count.cls ≠ "java/lang/invoke/VarHandle")⟩, ⟨(by decide +kernel : (parseMethodDescriptor yX1_count.desc).map (fun d => d.parameters.length + 1) = some 4), wk_1016, wk_1017, wk_1018, (RX1, TX1, 7), rfl, rfl⟩⟩⟩) (all_n)), lookup_all (l := (ML_count (gg G)).stt) (P := fun i e => vStt G RL i e) (all_n), lookup_all (l := (ML_count (gg G)).cst) (P := fun i e => vCst RL i e) (all_n), fun h => absurd rfl h, rfl, all_c (⟨"java/lang/IndexOutOfBoundsException", by decide, rfl, by decide, wk_348⟩) (all_c (⟨"java/lang/IllegalArgumentException", by decide, rfl, by decide, wk_435⟩) (all_c (⟨"java/lang/IllegalStateException", by decide, rfl, by decide, wk_869⟩) (all_n)))⟩
theorem okL_count {l : Launch} (hl : l.stackTraces = false) {G : GT} : ∀ (args : List Value) (w : Hw) (S : Ot → Hw → Prop), spOf (ML_count (gg G)) args w S → CX l G yL_count (.codeWith yL_count cL_count 6 (some .int) [(0, 13, 16, 19), (0, 13, 20, 28), (0, 13, 24, 74)]) 9 4 24 args w S := CX_spH (M := ML_count (gg G)) (y := yL_count) hl (by decide) rfl (vML_count hl G) (fun h => by cases h)
/-! RangecardLaw.who(LRangecard;IILRangecardLaw$Out;)I -/
theorem dL_who_0 : decode cL_who 0 = .ok (.aload_n 3, 1) := by decide +kernel
theorem dL_who_1 : decode cL_who 1 = .ok (.aload_n 0, 1) := by decide +kernel
theorem dL_who_2 : decode cL_who 2 = .ok (.iload_n 1, 1) := by decide +kernel
theorem dL_who_3 : decode cL_who 3 = .ok (.iload_n 2, 1) := by decide +kernel
theorem dL_who_4 : decode cL_who 4 = .ok (.invokevirtual 131, 3) := by decide +kernel
theorem dL_who_7 : decode cL_who 7 = .ok (.i2l, 1) := by decide +kernel
theorem dL_who_8 : decode cL_who 8 = .ok (.putfield 13, 3) := by decide +kernel
theorem dL_who_11 : decode cL_who 11 = .ok (.goto 11, 3) := by decide +kernel
theorem dL_who_14 : decode cL_who 14 = .ok (.astore 4, 2) := by decide +kernel
theorem dL_who_16 : decode cL_who 16 = .ok (.iconst 1, 1) := by decide +kernel
theorem dL_who_17 : decode cL_who 17 = .ok (.ireturn, 1) := by decide +kernel
theorem dL_who_18 : decode cL_who 18 = .ok (.astore 4, 2) := by decide +kernel
theorem dL_who_20 : decode cL_who 20 = .ok (.iconst 2, 1) := by decide +kernel
theorem dL_who_21 : decode cL_who 21 = .ok (.ireturn, 1) := by decide +kernel
theorem dL_who_22 : decode cL_who 22 = .ok (.iconst 0, 1) := by decide +kernel
theorem dL_who_23 : decode cL_who 23 = .ok (.ireturn, 1) := by decide +kernel
def ML_who (g : RO) : MT := ((RL, cL_who, 5, 8, 2, 12, false, some .int), [(13, 6, 0)], [], [], [], [], 0, [(131, 2, 3, 5, 7, (fun _ _ => 2), (fun _ _ => 12), yX1_who, spOf (MX1_who g))], [], [], 0, [(0, 11, 14, 19), (0, 11, 18, 28)], [(19, "java/lang/IndexOutOfBoundsException"), (28, "java/lang/IllegalArgumentException")], g)
section
variable {g : RO} {Q : Ot → Hw → Prop} {st : List Value} {w : Hw} {k n p q : Nat} {a b : Int32} {x y : Int64} {u v : Value} {l0 l1 l2 l3 l4 : Option Value}
theorem eL_who_0 : WP (ML_who g) Q (0, [l0, l1, l2, some (.ref p), l4], st, w, k, n) = WP (ML_who g) Q (1, [l0, l1, l2, some (.ref p), l4], .ref p :: st, w, k, n) := Eq.trans (WP_at (M := (ML_who g)) rfl dL_who_0 (Or.inr rfl)) rfl
theorem eL_who_0N : WP (ML_who g) Q (0, [l0, l1, l2, some .null, l4], st, w, k, n) = WP (ML_who g) Q (1, [l0, l1, l2, some .null, l4], .null :: st, w, k, n) := Eq.trans (WP_at (M := (ML_who g)) rfl dL_who_0 (Or.inr rfl)) rfl
theorem eL_who_1 : WP (ML_who g) Q (1, [some (.ref p), l1, l2, l3, l4], st, w, k, n) = WP (ML_who g) Q (2, [some (.ref p), l1, l2, l3, l4], .ref p :: st, w, k, n) := Eq.trans (WP_at (M := (ML_who g)) rfl dL_who_1 (Or.inr rfl)) rfl
theorem eL_who_1N : WP (ML_who g) Q (1, [some .null, l1, l2, l3, l4], st, w, k, n) = WP (ML_who g) Q (2, [some .null, l1, l2, l3, l4], .null :: st, w, k, n) := Eq.trans (WP_at (M := (ML_who g)) rfl dL_who_1 (Or.inr rfl)) rfl
theorem eL_who_2 : WP (ML_who g) Q (2, [l0, some (.int a), l2, l3, l4], st, w, k, n) = WP (ML_who g) Q (3, [l0, some (.int a), l2, l3, l4], .int a :: st, w, k, n) := Eq.trans (WP_at (M := (ML_who g)) rfl dL_who_2 (Or.inr rfl)) rfl
theorem eL_who_3 : WP (ML_who g) Q (3, [l0, l1, some (.int a), l3, l4], st, w, k, n) = WP (ML_who g) Q (4, [l0, l1, some (.int a), l3, l4], .int a :: st, w, k, n) := Eq.trans (WP_at (M := (ML_who g)) rfl dL_who_3 (Or.inr rfl)) rfl
theorem eL_who_4 {z0 : Int32} {z1 : Int32} : WP (ML_who g) Q (4, [l0, l1, l2, l3, l4], .int z1 :: .int z0 :: .ref p :: st, w, k, n) = (go (rd g w p) 5 (fun _ => True) ∧ wt st ≤ 8 ∧ k + 2 ≤ 2 ∧ n + 12 ≤ 12 ∧ WP (MX1_who g) (kx (fun v w' => WP (ML_who g) Q (7, [l0, l1, l2, l3, l4], v.toList ++ st, w', k + 2, n + 12)) (fun E w' => hgo (ML_who g) Q (WP (ML_who g) Q) 4 [l0, l1, l2, l3, l4] E w' (k + 2) (n + 12))) (0, [some (.ref p), some (.int z0), some (.int z1)], [], w, 0, 0)) := csVH (M := (ML_who g)) (mc := (fun _ _ => 2)) (ms := (fun _ _ => 12)) (As := [.int z0, .int z1]) (rest := st) (MX1_who g) rfl dL_who_4 (by exact fun h => nomatch (show (none : Option Nat) = some 11 from h)) (by exact fun h => nomatch (show (none : Option Nat) = some 15 from h)) rfl rfl (by decide) (Nat.le_of_ble_eq_true rfl) (Nat.le_of_ble_eq_true rfl) rfl
theorem eL_who_7 : WP (ML_who g) Q (7, [l0, l1, l2, l3, l4], .int a :: st, w, k, n) = WP (ML_who g) Q (8, [l0, l1, l2, l3, l4], .long a.toInt64 :: st, w, k, n) := Eq.trans (WP_at (M := (ML_who g)) rfl dL_who_7 (Or.inr rfl)) rfl
theorem eL_who_8 : WP (ML_who g) Q (8, [l0, l1, l2, l3, l4], v :: .ref p :: st, w, k, n) = go (w p) 6 fun fs => 0 < fs.length ∧ (narrow (.long) v = v ∧ fits (.long) v = true) ∧ WP (ML_who g) Q (11, [l0, l1, l2, l3, l4], st, upw w p (.inr (6, fs.set 0 v)), k, n) := put_e (q := (RX2, TX2, 2)) rfl dL_who_8 rfl rfl (tyX2_ok 0 (by decide)) (Or.inl rfl)
theorem eL_who_11 : WP (ML_who g) Q (11, [l0, l1, l2, l3, l4], st, w, k, n) = WP (ML_who g) Q (22, [l0, l1, l2, l3, l4], st, w, k, n) := goto_e rfl dL_who_11 (by decide)
theorem eL_who_14 : WP (ML_who g) Q (14, [l0, l1, l2, l3, l4], .ref p :: st, w, k, n) = WP (ML_who g) Q (16, [l0, l1, l2, nl l3, some (.ref p)], st, w, k, n) := by rw [WP_at (M := (ML_who g)) rfl dL_who_14 (Or.inr rfl)]; exact and_t (Nat.le_of_ble_eq_true rfl)
theorem eL_who_14N : WP (ML_who g) Q (14, [l0, l1, l2, l3, l4], .null :: st, w, k, n) = WP (ML_who g) Q (16, [l0, l1, l2, nl l3, some (.null)], st, w, k, n) := by rw [WP_at (M := (ML_who g)) rfl dL_who_14 (Or.inr rfl)]; exact and_t (Nat.le_of_ble_eq_true rfl)
theorem eL_who_16 : WP (ML_who g) Q (16, [l0, l1, l2, l3, l4], st, w, k, n) = WP (ML_who g) Q (17, [l0, l1, l2, l3, l4], .int 1 :: st, w, k, n) := iconst_e rfl dL_who_16 (by decide)
theorem eL_who_17 : WP (ML_who g) Q (17, [l0, l1, l2, l3, l4], [.int a], w, k, n) = (k ≤ 2 ∧ n ≤ 12 ∧ Q (.inl (some (.int a))) w) := iretI_e rfl dL_who_17 rfl
theorem eL_who_18 : WP (ML_who g) Q (18, [l0, l1, l2, l3, l4], .ref p :: st, w, k, n) = WP (ML_who g) Q (20, [l0, l1, l2, nl l3, some (.ref p)], st, w, k, n) := by rw [WP_at (M := (ML_who g)) rfl dL_who_18 (Or.inr rfl)]; exact and_t (Nat.le_of_ble_eq_true rfl)
theorem eL_who_18N : WP (ML_who g) Q (18, [l0, l1, l2, l3, l4], .null :: st, w, k, n) = WP (ML_who g) Q (20, [l0, l1, l2, nl l3, some (.null)], st, w, k, n) := by rw [WP_at (M := (ML_who g)) rfl dL_who_18 (Or.inr rfl)]; exact and_t (Nat.le_of_ble_eq_true rfl)
theorem eL_who_20 : WP (ML_who g) Q (20, [l0, l1, l2, l3, l4], st, w, k, n) = WP (ML_who g) Q (21, [l0, l1, l2, l3, l4], .int 2 :: st, w, k, n) := iconst_e rfl dL_who_20 (by decide)
theorem eL_who_21 : WP (ML_who g) Q (21, [l0, l1, l2, l3, l4], [.int a], w, k, n) = (k ≤ 2 ∧ n ≤ 12 ∧ Q (.inl (some (.int a))) w) := iretI_e rfl dL_who_21 rfl
theorem eL_who_22 : WP (ML_who g) Q (22, [l0, l1, l2, l3, l4], st, w, k, n) = WP (ML_who g) Q (23, [l0, l1, l2, l3, l4], .int 0 :: st, w, k, n) := iconst_e rfl dL_who_22 (by decide)
theorem eL_who_23 : WP (ML_who g) Q (23, [l0, l1, l2, l3, l4], [.int a], w, k, n) = (k ≤ 2 ∧ n ≤ 12 ∧ Q (.inl (some (.int a))) w) := iretI_e rfl dL_who_23 rfl
end
theorem wk_1027 : (.code yX1_who cX1_who 3 (some .int) : Jvm.Cond) ∈ WS := WS_t5 9 rfl rfl
theorem wk_1024 : (.methodLink RL 131 yX1_who : Jvm.Cond) ∈ WS := WS_t5 6 rfl rfl
theorem wk_1025 : (.instanceMethod yX1_who : Jvm.Cond) ∈ WS := WS_t5 7 rfl rfl
theorem wk_1026 : (.selects RX1 yX1_who yX1_who : Jvm.Cond) ∈ WS := WS_t5 8 rfl rfl
theorem vML_who {l : Launch} (hl : l.stackTraces = false) (G : GT) : vM l G (ML_who (gg G)) := ⟨fun i c j h => lookup_all (l := (ML_who (gg G)).fld) (P := fun i e => vFld RL i e.1 e.2) (all_c (vF_RL_13) (all_n)) i (c, j) h, fun i c fs h => lookup_all (l := (ML_who (gg G)).new) (P := fun i e => vNew RL i e.1 e.2) (all_n) i (c, fs) h, lookup_all (l := (ML_who (gg G)).anew) (P := fun i e => vANew RL i e) (all_n), lookup_all (l := (ML_who (gg G)).lng) (P := fun i e => Jvm.Cond.constantLong RL i e ∈ WS) (all_n), lookup_all (l := (ML_who (gg G)).thr) (P := fun i e => vThr RL cL_who i e) (all_n), fun h => absurd rfl h, lookup_all (l := (ML_who (gg G)).cal) (P := fun i e => vCal l G RL i e) (all_c (⟨cX1_who, 3, some .int, fun y hy => by subst hy; exact ⟨by decide, ⟨_, wk_1027, okX1_who hl, Or.inl ⟨Nat.ne_of_beq_eq_false rfl, rfl⟩⟩, wk_59, ⟨(by decide : yX1_who.cls ≠ "java/lang/invoke/MethodHandle"), (by decide : yX1_who.cls ≠ "java/lang/invoke/VarHandle")⟩, ⟨(by decide +kernel : (parseMethodDescriptor yX1_who.desc).map (fun d => d.parameters.length + 1) = some 3), wk_1024, wk_1025, wk_1026, (RX1, TX1, 7), rfl, rfl⟩⟩⟩) (all_n)), lookup_all (l := (ML_who (gg G)).stt) (P := fun i e => vStt G RL i e) (all_n), lookup_all (l := (ML_who (gg G)).cst) (P := fun i e => vCst RL i e) (all_n), fun h => absurd rfl h, rfl, all_c (⟨"java/lang/IndexOutOfBoundsException", by decide, rfl, by decide, wk_348⟩) (all_c (⟨"java/lang/IllegalArgumentException", by decide, rfl, by decide, wk_435⟩) (all_n))⟩
theorem okL_who {l : Launch} (hl : l.stackTraces = false) {G : GT} : ∀ (args : List Value) (w : Hw) (S : Ot → Hw → Prop), spOf (ML_who (gg G)) args w S → CX l G yL_who (.codeWith yL_who cL_who 5 (some .int) [(0, 11, 14, 19), (0, 11, 18, 28)]) 8 2 12 args w S := CX_spH (M := ML_who (gg G)) (y := yL_who) hl (by decide) rfl (vML_who hl G) (fun h => by cases h)
/-! RangecardLaw.which(LRangecard;ILRangecardLaw$Out;)I -/
theorem dL_which_0 : decode cL_which 0 = .ok (.aload_n 2, 1) := by decide +kernel
theorem dL_which_1 : decode cL_which 1 = .ok (.aload_n 0, 1) := by decide +kernel
theorem dL_which_2 : decode cL_which 2 = .ok (.iload_n 1, 1) := by decide +kernel
theorem dL_which_3 : decode cL_which 3 = .ok (.invokevirtual 134, 3) := by decide +kernel
theorem dL_which_6 : decode cL_which 6 = .ok (.i2l, 1) := by decide +kernel
theorem dL_which_7 : decode cL_which 7 = .ok (.putfield 13, 3) := by decide +kernel
theorem dL_which_10 : decode cL_which 10 = .ok (.goto 6, 3) := by decide +kernel
theorem dL_which_13 : decode cL_which 13 = .ok (.astore_n 3, 1) := by decide +kernel
theorem dL_which_14 : decode cL_which 14 = .ok (.iconst 1, 1) := by decide +kernel
theorem dL_which_15 : decode cL_which 15 = .ok (.ireturn, 1) := by decide +kernel
theorem dL_which_16 : decode cL_which 16 = .ok (.iconst 0, 1) := by decide +kernel
theorem dL_which_17 : decode cL_which 17 = .ok (.ireturn, 1) := by decide +kernel
def ML_which (g : RO) : MT := ((RL, cL_which, 4, 8, 1, 6, false, some .int), [(13, 6, 0)], [], [], [], [], 0, [(134, 2, 2, 5, 7, (fun _ _ => 1), (fun _ _ => 6), yX1_which, spOf (MX1_which g))], [], [], 0, [(0, 10, 13, 28)], [(28, "java/lang/IllegalArgumentException")], g)
section
variable {g : RO} {Q : Ot → Hw → Prop} {st : List Value} {w : Hw} {k n p q : Nat} {a b : Int32} {x y : Int64} {u v : Value} {l0 l1 l2 l3 : Option Value}
theorem eL_which_0 : WP (ML_which g) Q (0, [l0, l1, some (.ref p), l3], st, w, k, n) = WP (ML_which g) Q (1, [l0, l1, some (.ref p), l3], .ref p :: st, w, k, n) := Eq.trans (WP_at (M := (ML_which g)) rfl dL_which_0 (Or.inr rfl)) rfl
theorem eL_which_0N : WP (ML_which g) Q (0, [l0, l1, some .null, l3], st, w, k, n) = WP (ML_which g) Q (1, [l0, l1, some .null, l3], .null :: st, w, k, n) := Eq.trans (WP_at (M := (ML_which g)) rfl dL_which_0 (Or.inr rfl)) rfl
theorem eL_which_1 : WP (ML_which g) Q (1, [some (.ref p), l1, l2, l3], st, w, k, n) = WP (ML_which g) Q (2, [some (.ref p), l1, l2, l3], .ref p :: st, w, k, n) := Eq.trans (WP_at (M := (ML_which g)) rfl dL_which_1 (Or.inr rfl)) rfl
theorem eL_which_1N : WP (ML_which g) Q (1, [some .null, l1, l2, l3], st, w, k, n) = WP (ML_which g) Q (2, [some .null, l1, l2, l3], .null :: st, w, k, n) := Eq.trans (WP_at (M := (ML_which g)) rfl dL_which_1 (Or.inr rfl)) rfl
theorem eL_which_2 : WP (ML_which g) Q (2, [l0, some (.int a), l2, l3], st, w, k, n) = WP (ML_which g) Q (3, [l0, some (.int a), l2, l3], .int a :: st, w, k, n) := Eq.trans (WP_at (M := (ML_which g)) rfl dL_which_2 (Or.inr rfl)) rfl
theorem eL_which_3 {z0 : Int32} : WP (ML_which g) Q (3, [l0, l1, l2, l3], .int z0 :: .ref p :: st, w, k, n) = (go (rd g w p) 5 (fun _ => True) ∧ wt st ≤ 8 ∧ k + 1 ≤ 1 ∧ n + 6 ≤ 6 ∧ WP (MX1_which g) (kx (fun v w' => WP (ML_which g) Q (6, [l0, l1, l2, l3], v.toList ++ st, w', k + 1, n + 6)) (fun E w' => hgo (ML_which g) Q (WP (ML_which g) Q) 3 [l0, l1, l2, l3] E w' (k + 1) (n + 6))) (0, [some (.ref p), some (.int z0)], [], w, 0, 0)) := csVH (M := (ML_which g)) (mc := (fun _ _ => 1)) (ms := (fun _ _ => 6)) (As := [.int z0]) (rest := st) (MX1_which g) rfl dL_which_3 (by exact fun h => nomatch (show (none : Option Nat) = some 11 from h)) (by exact fun h => nomatch (show (none : Option Nat) = some 15 from h)) rfl rfl (by decide) (Nat.le_of_ble_eq_true rfl) (Nat.le_of_ble_eq_true rfl) rfl
theorem eL_which_6 : WP (ML_which g) Q (6, [l0, l1, l2, l3], .int a :: st, w, k, n) = WP (ML_which g) Q (7, [l0, l1, l2, l3], .long a.toInt64 :: st, w, k, n) := Eq.trans (WP_at (M := (ML_which g)) rfl dL_which_6 (Or.inr rfl)) rfl
theorem eL_which_7 : WP (ML_which g) Q (7, [l0, l1, l2, l3], v :: .ref p :: st, w, k, n) = go (w p) 6 fun fs => 0 < fs.length ∧ (narrow (.long) v = v ∧ fits (.long) v = true) ∧ WP (ML_which g) Q (10, [l0, l1, l2, l3], st, upw w p (.inr (6, fs.set 0 v)), k, n) := put_e (q := (RX2, TX2, 2)) rfl dL_which_7 rfl rfl (tyX2_ok 0 (by decide)) (Or.inl rfl)
theorem eL_which_10 : WP (ML_which g) Q (10, [l0, l1, l2, l3], st, w, k, n) = WP (ML_which g) Q (16, [l0, l1, l2, l3], st, w, k, n) := goto_e rfl dL_which_10 (by decide)
theorem eL_which_13 : WP (ML_which g) Q (13, [l0, l1, l2, l3], .ref p :: st, w, k, n) = WP (ML_which g) Q (14, [l0, l1, nl l2, some (.ref p)], st, w, k, n) := by rw [WP_at (M := (ML_which g)) rfl dL_which_13 (Or.inr rfl)]; exact and_t (Nat.le_of_ble_eq_true rfl)
theorem eL_which_13N : WP (ML_which g) Q (13, [l0, l1, l2, l3], .null :: st, w, k, n) = WP (ML_which g) Q (14, [l0, l1, nl l2, some (.null)], st, w, k, n) := by rw [WP_at (M := (ML_which g)) rfl dL_which_13 (Or.inr rfl)]; exact and_t (Nat.le_of_ble_eq_true rfl)
theorem eL_which_14 : WP (ML_which g) Q (14, [l0, l1, l2, l3], st, w, k, n) = WP (ML_which g) Q (15, [l0, l1, l2, l3], .int 1 :: st, w, k, n) := iconst_e rfl dL_which_14 (by decide)
theorem eL_which_15 : WP (ML_which g) Q (15, [l0, l1, l2, l3], [.int a], w, k, n) = (k ≤ 1 ∧ n ≤ 6 ∧ Q (.inl (some (.int a))) w) := iretI_e rfl dL_which_15 rfl
theorem eL_which_16 : WP (ML_which g) Q (16, [l0, l1, l2, l3], st, w, k, n) = WP (ML_which g) Q (17, [l0, l1, l2, l3], .int 0 :: st, w, k, n) := iconst_e rfl dL_which_16 (by decide)
theorem eL_which_17 : WP (ML_which g) Q (17, [l0, l1, l2, l3], [.int a], w, k, n) = (k ≤ 1 ∧ n ≤ 6 ∧ Q (.inl (some (.int a))) w) := iretI_e rfl dL_which_17 rfl
end
theorem wk_1034 : (.code yX1_which cX1_which 2 (some .int) : Jvm.Cond) ∈ WS := WS_t5 16 rfl rfl
theorem wk_1031 : (.methodLink RL 134 yX1_which : Jvm.Cond) ∈ WS := WS_t5 13 rfl rfl
theorem wk_1032 : (.instanceMethod yX1_which : Jvm.Cond) ∈ WS := WS_t5 14 rfl rfl
theorem wk_1033 : (.selects RX1 yX1_which yX1_which : Jvm.Cond) ∈ WS := WS_t5 15 rfl rfl
theorem vML_which {l : Launch} (hl : l.stackTraces = false) (G : GT) : vM l G (ML_which (gg G)) := ⟨fun i c j h => lookup_all (l := (ML_which (gg G)).fld) (P := fun i e => vFld RL i e.1 e.2) (all_c (vF_RL_13) (all_n)) i (c, j) h, fun i c fs h => lookup_all (l := (ML_which (gg G)).new) (P := fun i e => vNew RL i e.1 e.2) (all_n) i (c, fs) h, lookup_all (l := (ML_which (gg G)).anew) (P := fun i e => vANew RL i e) (all_n), lookup_all (l := (ML_which (gg G)).lng) (P := fun i e => Jvm.Cond.constantLong RL i e ∈ WS) (all_n), lookup_all (l := (ML_which (gg G)).thr) (P := fun i e => vThr RL cL_which i e) (all_n), fun h => absurd rfl h, lookup_all (l := (ML_which (gg G)).cal) (P := fun i e => vCal l G RL i e) (all_c (⟨cX1_which, 2, some .int, fun y hy => by subst hy; exact ⟨by decide, ⟨_, wk_1034, okX1_which hl, Or.inl ⟨Nat.ne_of_beq_eq_false rfl, rfl⟩⟩, wk_59, ⟨(by decide : yX1_which.cls ≠ "java/lang/invoke/MethodHandle"), (by decide : yX1_which.cls ≠ "java/lang/invoke/VarHandle")⟩, ⟨(by decide +kernel : (parseMethodDescriptor yX1_which.desc).map (fun d => d.parameters.length + 1) = some 2), wk_1031, wk_1032, wk_1033, (RX1, TX1, 7), rfl, rfl⟩⟩⟩) (all_n)), lookup_all (l := (ML_which (gg G)).stt) (P := fun i e => vStt G RL i e) (all_n), lookup_all (l := (ML_which (gg G)).cst) (P := fun i e => vCst RL i e) (all_n), fun h => absurd rfl h, rfl, all_c (⟨"java/lang/IllegalArgumentException", by decide, rfl, by decide, wk_435⟩) (all_n)⟩
theorem okL_which {l : Launch} (hl : l.stackTraces = false) {G : GT} : ∀ (args : List Value) (w : Hw) (S : Ot → Hw → Prop), spOf (ML_which (gg G)) args w S → CX l G yL_which (.codeWith yL_which cL_which 4 (some .int) [(0, 10, 13, 28)]) 8 1 6 args w S := CX_spH (M := ML_which (gg G)) (y := yL_which) hl (by decide) rfl (vML_which hl G) (fun h => by cases h)
/-! RangecardLaw.areSame(LRangecard;IILRangecardLaw$Out;)I -/
theorem dL_areSame_0 : decode cL_areSame 0 = .ok (.aload_n 3, 1) := by decide +kernel
theorem dL_areSame_1 : decode cL_areSame 1 = .ok (.aload_n 0, 1) := by decide +kernel
theorem dL_areSame_2 : decode cL_areSame 2 = .ok (.iload_n 1, 1) := by decide +kernel
theorem dL_areSame_3 : decode cL_areSame 3 = .ok (.iload_n 2, 1) := by decide +kernel
theorem dL_areSame_4 : decode cL_areSame 4 = .ok (.invokevirtual 137, 3) := by decide +kernel
theorem dL_areSame_7 : decode cL_areSame 7 = .ok (.ifCond .eq 7, 3) := by decide +kernel
theorem dL_areSame_10 : decode cL_areSame 10 = .ok (.lconst 1, 1) := by decide +kernel
theorem dL_areSame_11 : decode cL_areSame 11 = .ok (.goto 4, 3) := by decide +kernel
theorem dL_areSame_14 : decode cL_areSame 14 = .ok (.lconst 0, 1) := by decide +kernel
theorem dL_areSame_15 : decode cL_areSame 15 = .ok (.putfield 13, 3) := by decide +kernel
theorem dL_areSame_18 : decode cL_areSame 18 = .ok (.goto 11, 3) := by decide +kernel
theorem dL_areSame_21 : decode cL_areSame 21 = .ok (.astore 4, 2) := by decide +kernel
theorem dL_areSame_23 : decode cL_areSame 23 = .ok (.iconst 1, 1) := by decide +kernel
theorem dL_areSame_24 : decode cL_areSame 24 = .ok (.ireturn, 1) := by decide +kernel
theorem dL_areSame_25 : decode cL_areSame 25 = .ok (.astore 4, 2) := by decide +kernel
theorem dL_areSame_27 : decode cL_areSame 27 = .ok (.iconst 2, 1) := by decide +kernel
theorem dL_areSame_28 : decode cL_areSame 28 = .ok (.ireturn, 1) := by decide +kernel
theorem dL_areSame_29 : decode cL_areSame 29 = .ok (.iconst 0, 1) := by decide +kernel
theorem dL_areSame_30 : decode cL_areSame 30 = .ok (.ireturn, 1) := by decide +kernel
def ML_areSame (g : RO) : MT := ((RL, cL_areSame, 5, 9, 6, 36, false, some .int), [(13, 6, 0)], [], [], [], [], 0, [(137, 2, 3, 5, 8, (fun _ _ => 6), (fun _ _ => 36), yX1_areSame, spOf (MX1_areSame g))], [], [], 0, [(0, 18, 21, 19), (0, 18, 25, 74)], [(19, "java/lang/IndexOutOfBoundsException"), (74, "java/lang/IllegalStateException")], g)
section
variable {g : RO} {Q : Ot → Hw → Prop} {st : List Value} {w : Hw} {k n p q : Nat} {a b : Int32} {x y : Int64} {u v : Value} {l0 l1 l2 l3 l4 : Option Value}
theorem eL_areSame_0 : WP (ML_areSame g) Q (0, [l0, l1, l2, some (.ref p), l4], st, w, k, n) = WP (ML_areSame g) Q (1, [l0, l1, l2, some (.ref p), l4], .ref p :: st, w, k, n) := Eq.trans (WP_at (M := (ML_areSame g)) rfl dL_areSame_0 (Or.inr rfl)) rfl
theorem eL_areSame_0N : WP (ML_areSame g) Q (0, [l0, l1, l2, some .null, l4], st, w, k, n) = WP (ML_areSame g) Q (1, [l0, l1, l2, some .null, l4], .null :: st, w, k, n) := Eq.trans (WP_at (M := (ML_areSame g)) rfl dL_areSame_0 (Or.inr rfl)) rfl
theorem eL_areSame_1 : WP (ML_areSame g) Q (1, [some (.ref p), l1, l2, l3, l4], st, w, k, n) = WP (ML_areSame g) Q (2, [some (.ref p), l1, l2, l3, l4], .ref p :: st, w, k, n) := Eq.trans (WP_at (M := (ML_areSame g)) rfl dL_areSame_1 (Or.inr rfl)) rfl
theorem eL_areSame_1N : WP (ML_areSame g) Q (1, [some .null, l1, l2, l3, l4], st, w, k, n) = WP (ML_areSame g) Q (2, [some .null, l1, l2, l3, l4], .null :: st, w, k, n) := Eq.trans (WP_at (M := (ML_areSame g)) rfl dL_areSame_1 (Or.inr rfl)) rfl
theorem eL_areSame_2 : WP (ML_areSame g) Q (2, [l0, some (.int a), l2, l3, l4], st, w, k, n) = WP (ML_areSame g) Q (3, [l0, some (.int a), l2, l3, l4], .int a :: st, w, k, n) := Eq.trans (WP_at (M := (ML_areSame g)) rfl dL_areSame_2 (Or.inr rfl)) rfl
theorem eL_areSame_3 : WP (ML_areSame g) Q (3, [l0, l1, some (.int a), l3, l4], st, w, k, n) = WP (ML_areSame g) Q (4, [l0, l1, some (.int a), l3, l4], .int a :: st, w, k, n) := Eq.trans (WP_at (M := (ML_areSame g)) rfl dL_areSame_3 (Or.inr rfl)) rfl
theorem eL_areSame_4 {z0 : Int32} {z1 : Int32} : WP (ML_areSame g) Q (4, [l0, l1, l2, l3, l4], .int z1 :: .int z0 :: .ref p :: st, w, k, n) = (go (rd g w p) 5 (fun _ => True) ∧ wt st ≤ 8 ∧ k + 6 ≤ 6 ∧ n + 36 ≤ 36 ∧ WP (MX1_areSame g) (kx (fun v w' => WP (ML_areSame g) Q (7, [l0, l1, l2, l3, l4], v.toList ++ st, w', k + 6, n + 36)) (fun E w' => hgo (ML_areSame g) Q (WP (ML_areSame g) Q) 4 [l0, l1, l2, l3, l4] E w' (k + 6) (n + 36))) (0, [some (.ref p), some (.int z0), some (.int z1)], [], w, 0, 0)) := csVH (M := (ML_areSame g)) (mc := (fun _ _ => 6)) (ms := (fun _ _ => 36)) (As := [.int z0, .int z1]) (rest := st) (MX1_areSame g) rfl dL_areSame_4 (by exact fun h => nomatch (show (none : Option Nat) = some 11 from h)) (by exact fun h => nomatch (show (none : Option Nat) = some 15 from h)) rfl rfl (by decide) (Nat.le_of_ble_eq_true rfl) (Nat.le_of_ble_eq_true rfl) rfl
theorem eL_areSame_7 : WP (ML_areSame g) Q (7, [l0, l1, l2, l3, l4], .int a :: st, w, k, n) = if a = 0 then WP (ML_areSame g) Q (14, [l0, l1, l2, l3, l4], st, w, k, n) else WP (ML_areSame g) Q (10, [l0, l1, l2, l3, l4], st, w, k, n) := ifc_e (a = 0) rfl dL_areSame_7 rfl (by decide)
theorem eL_areSame_10 : WP (ML_areSame g) Q (10, [l0, l1, l2, l3, l4], st, w, k, n) = WP (ML_areSame g) Q (11, [l0, l1, l2, l3, l4], .long 1 :: st, w, k, n) := lconst_e rfl dL_areSame_10 (by decide)
theorem eL_areSame_11 : WP (ML_areSame g) Q (11, [l0, l1, l2, l3, l4], st, w, k, n) = WP (ML_areSame g) Q (15, [l0, l1, l2, l3, l4], st, w, k, n) := goto_e rfl dL_areSame_11 (by decide)
theorem eL_areSame_14 : WP (ML_areSame g) Q (14, [l0, l1, l2, l3, l4], st, w, k, n) = WP (ML_areSame g) Q (15, [l0, l1, l2, l3, l4], .long 0 :: st, w, k, n) := lconst_e rfl dL_areSame_14 (by decide)
theorem eL_areSame_15 : WP (ML_areSame g) Q (15, [l0, l1, l2, l3, l4], v :: .ref p :: st, w, k, n) = go (w p) 6 fun fs => 0 < fs.length ∧ (narrow (.long) v = v ∧ fits (.long) v = true) ∧ WP (ML_areSame g) Q (18, [l0, l1, l2, l3, l4], st, upw w p (.inr (6, fs.set 0 v)), k, n) := put_e (q := (RX2, TX2, 2)) rfl dL_areSame_15 rfl rfl (tyX2_ok 0 (by decide)) (Or.inl rfl)
theorem eL_areSame_18 : WP (ML_areSame g) Q (18, [l0, l1, l2, l3, l4], st, w, k, n) = WP (ML_areSame g) Q (29, [l0, l1, l2, l3, l4], st, w, k, n) := goto_e rfl dL_areSame_18 (by decide)
theorem eL_areSame_21 : WP (ML_areSame g) Q (21, [l0, l1, l2, l3, l4], .ref p :: st, w, k, n) = WP (ML_areSame g) Q (23, [l0, l1, l2, nl l3, some (.ref p)], st, w, k, n) := by rw [WP_at (M := (ML_areSame g)) rfl dL_areSame_21 (Or.inr rfl)]; exact and_t (Nat.le_of_ble_eq_true rfl)
theorem eL_areSame_21N : WP (ML_areSame g) Q (21, [l0, l1, l2, l3, l4], .null :: st, w, k, n) = WP (ML_areSame g) Q (23, [l0, l1, l2, nl l3, some (.null)], st, w, k, n) := by rw [WP_at (M := (ML_areSame g)) rfl dL_areSame_21 (Or.inr rfl)]; exact and_t (Nat.le_of_ble_eq_true rfl)
theorem eL_areSame_23 : WP (ML_areSame g) Q (23, [l0, l1, l2, l3, l4], st, w, k, n) = WP (ML_areSame g) Q (24, [l0, l1, l2, l3, l4], .int 1 :: st, w, k, n) := iconst_e rfl dL_areSame_23 (by decide)
theorem eL_areSame_24 : WP (ML_areSame g) Q (24, [l0, l1, l2, l3, l4], [.int a], w, k, n) = (k ≤ 6 ∧ n ≤ 36 ∧ Q (.inl (some (.int a))) w) := iretI_e rfl dL_areSame_24 rfl
theorem eL_areSame_25 : WP (ML_areSame g) Q (25, [l0, l1, l2, l3, l4], .ref p :: st, w, k, n) = WP (ML_areSame g) Q (27, [l0, l1, l2, nl l3, some (.ref p)], st, w, k, n) := by rw [WP_at (M := (ML_areSame g)) rfl dL_areSame_25 (Or.inr rfl)]; exact and_t (Nat.le_of_ble_eq_true rfl)
theorem eL_areSame_25N : WP (ML_areSame g) Q (25, [l0, l1, l2, l3, l4], .null :: st, w, k, n) = WP (ML_areSame g) Q (27, [l0, l1, l2, nl l3, some (.null)], st, w, k, n) := by rw [WP_at (M := (ML_areSame g)) rfl dL_areSame_25 (Or.inr rfl)]; exact and_t (Nat.le_of_ble_eq_true rfl)
theorem eL_areSame_27 : WP (ML_areSame g) Q (27, [l0, l1, l2, l3, l4], st, w, k, n) = WP (ML_areSame g) Q (28, [l0, l1, l2, l3, l4], .int 2 :: st, w, k, n) := iconst_e rfl dL_areSame_27 (by decide)
theorem eL_areSame_28 : WP (ML_areSame g) Q (28, [l0, l1, l2, l3, l4], [.int a], w, k, n) = (k ≤ 6 ∧ n ≤ 36 ∧ Q (.inl (some (.int a))) w) := iretI_e rfl dL_areSame_28 rfl
theorem eL_areSame_29 : WP (ML_areSame g) Q (29, [l0, l1, l2, l3, l4], st, w, k, n) = WP (ML_areSame g) Q (30, [l0, l1, l2, l3, l4], .int 0 :: st, w, k, n) := iconst_e rfl dL_areSame_29 (by decide)
theorem eL_areSame_30 : WP (ML_areSame g) Q (30, [l0, l1, l2, l3, l4], [.int a], w, k, n) = (k ≤ 6 ∧ n ≤ 36 ∧ Q (.inl (some (.int a))) w) := iretI_e rfl dL_areSame_30 rfl
end
theorem wk_1041 : (.code yX1_areSame cX1_areSame 3 (some .boolean) : Jvm.Cond) ∈ WS := WS_t5 23 rfl rfl
theorem wk_1038 : (.methodLink RL 137 yX1_areSame : Jvm.Cond) ∈ WS := WS_t5 20 rfl rfl
theorem wk_1039 : (.instanceMethod yX1_areSame : Jvm.Cond) ∈ WS := WS_t5 21 rfl rfl
theorem wk_1040 : (.selects RX1 yX1_areSame yX1_areSame : Jvm.Cond) ∈ WS := WS_t5 22 rfl rfl
theorem vML_areSame {l : Launch} (hl : l.stackTraces = false) (G : GT) : vM l G (ML_areSame (gg G)) := ⟨fun i c j h => lookup_all (l := (ML_areSame (gg G)).fld) (P := fun i e => vFld RL i e.1 e.2) (all_c (vF_RL_13) (all_n)) i (c, j) h, fun i c fs h => lookup_all (l := (ML_areSame (gg G)).new) (P := fun i e => vNew RL i e.1 e.2) (all_n) i (c, fs) h, lookup_all (l := (ML_areSame (gg G)).anew) (P := fun i e => vANew RL i e) (all_n), lookup_all (l := (ML_areSame (gg G)).lng) (P := fun i e => Jvm.Cond.constantLong RL i e ∈ WS) (all_n), lookup_all (l := (ML_areSame (gg G)).thr) (P := fun i e => vThr RL cL_areSame i e) (all_n), fun h => absurd rfl h, lookup_all (l := (ML_areSame (gg G)).cal) (P := fun i e => vCal l G RL i e) (all_c (⟨cX1_areSame, 3, some .boolean, fun y hy => by subst hy; exact ⟨by decide, ⟨_, wk_1041, okX1_areSame hl, Or.inl ⟨Nat.ne_of_beq_eq_false rfl, rfl⟩⟩, wk_59, ⟨(by decide : yX1_areSame.cls ≠ "java/lang/invoke/MethodHandle"), (by decide : yX1_areSame.cls ≠ "java/lang/invoke/VarHandle")⟩, ⟨(by decide +kernel : (parseMethodDescriptor yX1_areSame.desc).map (fun d => d.parameters.length + 1) = some 3), wk_1038, wk_1039, wk_1040, (RX1, TX1, 7), rfl, rfl⟩⟩⟩) (all_n)), lookup_all (l := (ML_areSame (gg G)).stt) (P := fun i e => vStt G RL i e) (all_n), lookup_all (l := (ML_areSame (gg G)).cst) (P := fun i e => vCst RL i e) (all_n), fun h => absurd rfl h, rfl, all_c (⟨"java/lang/IndexOutOfBoundsException", by decide, rfl, by decide, wk_348⟩) (all_c (⟨"java/lang/IllegalStateException", by decide, rfl, by decide, wk_869⟩) (all_n))⟩
theorem okL_areSame {l : Launch} (hl : l.stackTraces = false) {G : GT} : ∀ (args : List Value) (w : Hw) (S : Ot → Hw → Prop), spOf (ML_areSame (gg G)) args w S → CX l G yL_areSame (.codeWith yL_areSame cL_areSame 5 (some .int) [(0, 18, 21, 19), (0, 18, 25, 74)]) 9 6 36 args w S := CX_spH (M := ML_areSame (gg G)) (y := yL_areSame) hl (by decide) rfl (vML_areSame hl G) (fun h => by cases h)
end
/-! 69.law06.lean.txt -/
section
/-! RangecardLaw.isSameAs(LRangecard;IILRangecardLaw$Out;)I -/
theorem dL_isSameAs_0 : decode cL_isSameAs 0 = .ok (.aload_n 3, 1) := by decide +kernel
theorem dL_isSameAs_1 : decode cL_isSameAs 1 = .ok (.aload_n 0, 1) := by decide +kernel
theorem dL_isSameAs_2 : decode cL_isSameAs 2 = .ok (.iload_n 1, 1) := by decide +kernel
theorem dL_isSameAs_3 : decode cL_isSameAs 3 = .ok (.iload_n 2, 1) := by decide +kernel
theorem dL_isSameAs_4 : decode cL_isSameAs 4 = .ok (.invokevirtual 140, 3) := by decide +kernel
theorem dL_isSameAs_7 : decode cL_isSameAs 7 = .ok (.ifCond .eq 7, 3) := by decide +kernel
theorem dL_isSameAs_10 : decode cL_isSameAs 10 = .ok (.lconst 1, 1) := by decide +kernel
theorem dL_isSameAs_11 : decode cL_isSameAs 11 = .ok (.goto 4, 3) := by decide +kernel
theorem dL_isSameAs_14 : decode cL_isSameAs 14 = .ok (.lconst 0, 1) := by decide +kernel
theorem dL_isSameAs_15 : decode cL_isSameAs 15 = .ok (.putfield 13, 3) := by decide +kernel
theorem dL_isSameAs_18 : decode cL_isSameAs 18 = .ok (.goto 15, 3) := by decide +kernel
theorem dL_isSameAs_21 : decode cL_isSameAs 21 = .ok (.astore 4, 2) := by decide +kernel
theorem dL_isSameAs_23 : decode cL_isSameAs 23 = .ok (.iconst 1, 1) := by decide +kernel
theorem dL_isSameAs_24 : decode cL_isSameAs 24 = .ok (.ireturn, 1) := by decide +kernel
theorem dL_isSameAs_25 : decode cL_isSameAs 25 = .ok (.astore 4, 2) := by decide +kernel
theorem dL_isSameAs_27 : decode cL_isSameAs 27 = .ok (.iconst 2, 1) := by decide +kernel
theorem dL_isSameAs_28 : decode cL_isSameAs 28 = .ok (.ireturn, 1) := by decide +kernel
theorem dL_isSameAs_29 : decode cL_isSameAs 29 = .ok (.astore 4, 2) := by decide +kernel
theorem dL_isSameAs_31 : decode cL_isSameAs 31 = .ok (.iconst 3, 1) := by decide +kernel
theorem dL_isSameAs_32 : decode cL_isSameAs 32 = .ok (.ireturn, 1) := by decide +kernel
theorem dL_isSameAs_33 : decode cL_isSameAs 33 = .ok (.iconst 0, 1) := by decide +kernel
theorem dL_isSameAs_34 : decode cL_isSameAs 34 = .ok (.ireturn, 1) := by decide +kernel
def ML_isSameAs (g : RO) : MT := ((RL, cL_isSameAs, 5, 9, 6, 32, false, some .int), [(13, 6, 0)], [], [], [], [], 0, [(140, 2, 3, 5, 8, (fun _ _ => 6), (fun _ _ => 32), yX1_isSameAs, spOf (MX1_isSameAs g))], [], [], 0, [(0, 18, 21, 19), (0, 18, 25, 28), (0, 18, 29, 74)], [(19, "java/lang/IndexOutOfBoundsException"), (28, "java/lang/IllegalArgumentException"), (74, "java/lang/IllegalStateException")], g)
section
variable {g : RO} {Q : Ot → Hw → Prop} {st : List Value} {w : Hw} {k n p q : Nat} {a b : Int32} {x y : Int64} {u v : Value} {l0 l1 l2 l3 l4 : Option Value}
theorem eL_isSameAs_0 : WP (ML_isSameAs g) Q (0, [l0, l1, l2, some (.ref p), l4], st, w, k, n) = WP (ML_isSameAs g) Q (1, [l0, l1, l2, some (.ref p), l4], .ref p :: st, w, k, n) := Eq.trans (WP_at (M := (ML_isSameAs g)) rfl dL_isSameAs_0 (Or.inr rfl)) rfl
theorem eL_isSameAs_0N : WP (ML_isSameAs g) Q (0, [l0, l1, l2, some .null, l4], st, w, k, n) = WP (ML_isSameAs g) Q (1, [l0, l1, l2, some .null, l4], .null :: st, w, k, n) := Eq.trans (WP_at (M := (ML_isSameAs g)) rfl dL_isSameAs_0 (Or.inr rfl)) rfl
theorem eL_isSameAs_1 : WP (ML_isSameAs g) Q (1, [some (.ref p), l1, l2, l3, l4], st, w, k, n) = WP (ML_isSameAs g) Q (2, [some (.ref p), l1, l2, l3, l4], .ref p :: st, w, k, n) := Eq.trans (WP_at (M := (ML_isSameAs g)) rfl dL_isSameAs_1 (Or.inr rfl)) rfl
theorem eL_isSameAs_1N : WP (ML_isSameAs g) Q (1, [some .null, l1, l2, l3, l4], st, w, k, n) = WP (ML_isSameAs g) Q (2, [some .null, l1, l2, l3, l4], .null :: st, w, k, n) := Eq.trans (WP_at (M := (ML_isSameAs g)) rfl dL_isSameAs_1 (Or.inr rfl)) rfl
theorem eL_isSameAs_2 : WP (ML_isSameAs g) Q (2, [l0, some (.int a), l2, l3, l4], st, w, k, n) = WP (ML_isSameAs g) Q (3, [l0, some (.int a), l2, l3, l4], .int a :: st, w, k, n) := Eq.trans (WP_at (M := (ML_isSameAs g)) rfl dL_isSameAs_2 (Or.inr rfl)) rfl
theorem eL_isSameAs_3 : WP (ML_isSameAs g) Q (3, [l0, l1, some (.int a), l3, l4], st, w, k, n) = WP (ML_isSameAs g) Q (4, [l0, l1, some (.int a), l3, l4], .int a :: st, w, k, n) := Eq.trans (WP_at (M := (ML_isSameAs g)) rfl dL_isSameAs_3 (Or.inr rfl)) rfl
theorem eL_isSameAs_4 {z0 : Int32} {z1 : Int32} : WP (ML_isSameAs g) Q (4, [l0, l1, l2, l3, l4], .int z1 :: .int z0 :: .ref p :: st, w, k, n) = (go (rd g w p) 5 (fun _ => True) ∧ wt st ≤ 8 ∧ k + 6 ≤ 6 ∧ n + 32 ≤ 32 ∧ WP (MX1_isSameAs g) (kx (fun v w' => WP (ML_isSameAs g) Q (7, [l0, l1, l2, l3, l4], v.toList ++ st, w', k + 6, n + 32)) (fun E w' => hgo (ML_isSameAs g) Q (WP (ML_isSameAs g) Q) 4 [l0, l1, l2, l3, l4] E w' (k + 6) (n + 32))) (0, [some (.ref p), some (.int z0), some (.int z1), none], [], w, 0, 0)) := csVH (M := (ML_isSameAs g)) (mc := (fun _ _ => 6)) (ms := (fun _ _ => 32)) (As := [.int z0, .int z1]) (rest := st) (MX1_isSameAs g) rfl dL_isSameAs_4 (by exact fun h => nomatch (show (none : Option Nat) = some 11 from h)) (by exact fun h => nomatch (show (none : Option Nat) = some 15 from h)) rfl rfl (by decide) (Nat.le_of_ble_eq_true rfl) (Nat.le_of_ble_eq_true rfl) rfl
theorem eL_isSameAs_7 : WP (ML_isSameAs g) Q (7, [l0, l1, l2, l3, l4], .int a :: st, w, k, n) = if a = 0 then WP (ML_isSameAs g) Q (14, [l0, l1, l2, l3, l4], st, w, k, n) else WP (ML_isSameAs g) Q (10, [l0, l1, l2, l3, l4], st, w, k, n) := ifc_e (a = 0) rfl dL_isSameAs_7 rfl (by decide)
theorem eL_isSameAs_10 : WP (ML_isSameAs g) Q (10, [l0, l1, l2, l3, l4], st, w, k, n) = WP (ML_isSameAs g) Q (11, [l0, l1, l2, l3, l4], .long 1 :: st, w, k, n) := lconst_e rfl dL_isSameAs_10 (by decide)
theorem eL_isSameAs_11 : WP (ML_isSameAs g) Q (11, [l0, l1, l2, l3, l4], st, w, k, n) = WP (ML_isSameAs g) Q (15, [l0, l1, l2, l3, l4], st, w, k, n) := goto_e rfl dL_isSameAs_11 (by decide)
theorem eL_isSameAs_14 : WP (ML_isSameAs g) Q (14, [l0, l1, l2, l3, l4], st, w, k, n) = WP (ML_isSameAs g) Q (15, [l0, l1, l2, l3, l4], .long 0 :: st, w, k, n) := lconst_e rfl dL_isSameAs_14 (by decide)
theorem eL_isSameAs_15 : WP (ML_isSameAs g) Q (15, [l0, l1, l2, l3, l4], v :: .ref p :: st, w, k, n) = go (w p) 6 fun fs => 0 < fs.length ∧ (narrow (.long) v = v ∧ fits (.long) v = true) ∧ WP (ML_isSameAs g) Q (18, [l0, l1, l2, l3, l4], st, upw w p (.inr (6, fs.set 0 v)), k, n) := put_e (q := (RX2, TX2, 2)) rfl dL_isSameAs_15 rfl rfl (tyX2_ok 0 (by decide)) (Or.inl rfl)
theorem eL_isSameAs_18 : WP (ML_isSameAs g) Q (18, [l0, l1, l2, l3, l4], st, w, k, n) = WP (ML_isSameAs g) Q (33, [l0, l1, l2, l3, l4], st, w, k, n) := goto_e rfl dL_isSameAs_18 (by decide)
theorem eL_isSameAs_21 : WP (ML_isSameAs g) Q (21, [l0, l1, l2, l3, l4], .ref p :: st, w, k, n) = WP (ML_isSameAs g) Q (23, [l0, l1, l2, nl l3, some (.ref p)], st, w, k, n) := by rw [WP_at (M := (ML_isSameAs g)) rfl dL_isSameAs_21 (Or.inr rfl)]; exact and_t (Nat.le_of_ble_eq_true rfl)
theorem eL_isSameAs_21N : WP (ML_isSameAs g) Q (21, [l0, l1, l2, l3, l4], .null :: st, w, k, n) = WP (ML_isSameAs g) Q (23, [l0, l1, l2, nl l3, some (.null)], st, w, k, n) := by rw [WP_at (M := (ML_isSameAs g)) rfl dL_isSameAs_21 (Or.inr rfl)]; exact and_t (Nat.le_of_ble_eq_true rfl)
theorem eL_isSameAs_23 : WP (ML_isSameAs g) Q (23, [l0, l1, l2, l3, l4], st, w, k, n) = WP (ML_isSameAs g) Q (24, [l0, l1, l2, l3, l4], .int 1 :: st, w, k, n) := iconst_e rfl dL_isSameAs_23 (by decide)
theorem eL_isSameAs_24 : WP (ML_isSameAs g) Q (24, [l0, l1, l2, l3, l4], [.int a], w, k, n) = (k ≤ 6 ∧ n ≤ 32 ∧ Q (.inl (some (.int a))) w) := iretI_e rfl dL_isSameAs_24 rfl
theorem eL_isSameAs_25 : WP (ML_isSameAs g) Q (25, [l0, l1, l2, l3, l4], .ref p :: st, w, k, n) = WP (ML_isSameAs g) Q (27, [l0, l1, l2, nl l3, some (.ref p)], st, w, k, n) := by rw [WP_at (M := (ML_isSameAs g)) rfl dL_isSameAs_25 (Or.inr rfl)]; exact and_t (Nat.le_of_ble_eq_true rfl)
theorem eL_isSameAs_25N : WP (ML_isSameAs g) Q (25, [l0, l1, l2, l3, l4], .null :: st, w, k, n) = WP (ML_isSameAs g) Q (27, [l0, l1, l2, nl l3, some (.null)], st, w, k, n) := by rw [WP_at (M := (ML_isSameAs g)) rfl dL_isSameAs_25 (Or.inr rfl)]; exact and_t (Nat.le_of_ble_eq_true rfl)
theorem eL_isSameAs_27 : WP (ML_isSameAs g) Q (27, [l0, l1, l2, l3, l4], st, w, k, n) = WP (ML_isSameAs g) Q (28, [l0, l1, l2, l3, l4], .int 2 :: st, w, k, n) := iconst_e rfl dL_isSameAs_27 (by decide)
theorem eL_isSameAs_28 : WP (ML_isSameAs g) Q (28, [l0, l1, l2, l3, l4], [.int a], w, k, n) = (k ≤ 6 ∧ n ≤ 32 ∧ Q (.inl (some (.int a))) w) := iretI_e rfl dL_isSameAs_28 rfl
theorem eL_isSameAs_29 : WP (ML_isSameAs g) Q (29, [l0, l1, l2, l3, l4], .ref p :: st, w, k, n) = WP (ML_isSameAs g) Q (31, [l0, l1, l2, nl l3, some (.ref p)], st, w, k, n) := by rw [WP_at (M := (ML_isSameAs g)) rfl dL_isSameAs_29 (Or.inr rfl)]; exact and_t (Nat.le_of_ble_eq_true rfl)
theorem eL_isSameAs_29N : WP (ML_isSameAs g) Q (29, [l0, l1, l2, l3, l4], .null :: st, w, k, n) = WP (ML_isSameAs g) Q (31, [l0, l1, l2, nl l3, some (.null)], st, w, k, n) := by rw [WP_at (M := (ML_isSameAs g)) rfl dL_isSameAs_29 (Or.inr rfl)]; exact and_t (Nat.le_of_ble_eq_true rfl)
theorem eL_isSameAs_31 : WP (ML_isSameAs g) Q (31, [l0, l1, l2, l3, l4], st, w, k, n) = WP (ML_isSameAs g) Q (32, [l0, l1, l2, l3, l4], .int 3 :: st, w, k, n) := iconst_e rfl dL_isSameAs_31 (by decide)
theorem eL_isSameAs_32 : WP (ML_isSameAs g) Q (32, [l0, l1, l2, l3, l4], [.int a], w, k, n) = (k ≤ 6 ∧ n ≤ 32 ∧ Q (.inl (some (.int a))) w) := iretI_e rfl dL_isSameAs_32 rfl
theorem eL_isSameAs_33 : WP (ML_isSameAs g) Q (33, [l0, l1, l2, l3, l4], st, w, k, n) = WP (ML_isSameAs g) Q (34, [l0, l1, l2, l3, l4], .int 0 :: st, w, k, n) := iconst_e rfl dL_isSameAs_33 (by decide)
theorem eL_isSameAs_34 : WP (ML_isSameAs g) Q (34, [l0, l1, l2, l3, l4], [.int a], w, k, n) = (k ≤ 6 ∧ n ≤ 32 ∧ Q (.inl (some (.int a))) w) := iretI_e rfl dL_isSameAs_34 rfl
end
theorem wk_1048 : (.code yX1_isSameAs cX1_isSameAs 4 (some .boolean) : Jvm.Cond) ∈ WS := WS_t5 30 rfl rfl
theorem wk_1045 : (.methodLink RL 140 yX1_isSameAs : Jvm.Cond) ∈ WS := WS_t5 27 rfl rfl
theorem wk_1046 : (.instanceMethod yX1_isSameAs : Jvm.Cond) ∈ WS := WS_t5 28 rfl rfl
theorem wk_1047 : (.selects RX1 yX1_isSameAs yX1_isSameAs : Jvm.Cond) ∈ WS := WS_t5 29 rfl rfl
theorem vML_isSameAs {l : Launch} (hl : l.stackTraces = false) (G : GT) : vM l G (ML_isSameAs (gg G)) := ⟨fun i c j h => lookup_all (l := (ML_isSameAs (gg G)).fld) (P := fun i e => vFld RL i e.1 e.2) (all_c (vF_RL_13) (all_n)) i (c, j) h, fun i c fs h => lookup_all (l := (ML_isSameAs (gg G)).new) (P := fun i e => vNew RL i e.1 e.2) (all_n) i (c, fs) h, lookup_all (l := (ML_isSameAs (gg G)).anew) (P := fun i e => vANew RL i e) (all_n), lookup_all (l := (ML_isSameAs (gg G)).lng) (P := fun i e => Jvm.Cond.constantLong RL i e ∈ WS) (all_n), lookup_all (l := (ML_isSameAs (gg G)).thr) (P := fun i e => vThr RL cL_isSameAs i e) (all_n), fun h => absurd rfl h, lookup_all (l := (ML_isSameAs (gg G)).cal) (P := fun i e => vCal l G RL i e) (all_c (⟨cX1_isSameAs, 4, some .boolean, fun y hy => by subst hy; exact ⟨by decide, ⟨_, wk_1048, okX1_isSameAs hl, Or.inl ⟨Nat.ne_of_beq_eq_false rfl, rfl⟩⟩, wk_59, ⟨(by decide : yX1_isSameAs.cls ≠ "java/lang/invoke/MethodHandle"), (by decide : yX1_isSameAs.cls ≠ "java/lang/invoke/VarHandle")⟩, ⟨(by decide +kernel : (parseMethodDescriptor yX1_isSameAs.desc).map (fun d => d.parameters.length + 1) = some 3), wk_1045, wk_1046, wk_1047, (RX1, TX1, 7), rfl, rfl⟩⟩⟩) (all_n)), lookup_all (l := (ML_isSameAs (gg G)).stt) (P := fun i e => vStt G RL i e) (all_n), lookup_all (l := (ML_isSameAs (gg G)).cst) (P := fun i e => vCst RL i e) (all_n), fun h => absurd rfl h, rfl, all_c (⟨"java/lang/IndexOutOfBoundsException", by decide, rfl, by decide, wk_348⟩) (all_c (⟨"java/lang/IllegalArgumentException", by decide, rfl, by decide, wk_435⟩) (all_c (⟨"java/lang/IllegalStateException", by decide, rfl, by decide, wk_869⟩) (all_n)))⟩
theorem okL_isSameAs {l : Launch} (hl : l.stackTraces = false) {G : GT} : ∀ (args : List Value) (w : Hw) (S : Ot → Hw → Prop), spOf (ML_isSameAs (gg G)) args w S → CX l G yL_isSameAs (.codeWith yL_isSameAs cL_isSameAs 5 (some .int) [(0, 18, 21, 19), (0, 18, 25, 28), (0, 18, 29, 74)]) 9 6 32 args w S := CX_spH (M := ML_isSameAs (gg G)) (y := yL_isSameAs) hl (by decide) rfl (vML_isSameAs hl G) (fun h => by cases h)
/-! RangecardLaw.likes(LRangecard;ILRangecardLaw$Out;)I -/
theorem dL_likes_0 : decode cL_likes 0 = .ok (.aload_n 2, 1) := by decide +kernel
theorem dL_likes_1 : decode cL_likes 1 = .ok (.aload_n 0, 1) := by decide +kernel
theorem dL_likes_2 : decode cL_likes 2 = .ok (.iload_n 1, 1) := by decide +kernel
theorem dL_likes_3 : decode cL_likes 3 = .ok (.invokevirtual 143, 3) := by decide +kernel
theorem dL_likes_6 : decode cL_likes 6 = .ok (.i2l, 1) := by decide +kernel
theorem dL_likes_7 : decode cL_likes 7 = .ok (.putfield 13, 3) := by decide +kernel
theorem dL_likes_10 : decode cL_likes 10 = .ok (.goto 9, 3) := by decide +kernel
theorem dL_likes_13 : decode cL_likes 13 = .ok (.astore_n 3, 1) := by decide +kernel
theorem dL_likes_14 : decode cL_likes 14 = .ok (.iconst 1, 1) := by decide +kernel
theorem dL_likes_15 : decode cL_likes 15 = .ok (.ireturn, 1) := by decide +kernel
theorem dL_likes_16 : decode cL_likes 16 = .ok (.astore_n 3, 1) := by decide +kernel
theorem dL_likes_17 : decode cL_likes 17 = .ok (.iconst 2, 1) := by decide +kernel
theorem dL_likes_18 : decode cL_likes 18 = .ok (.ireturn, 1) := by decide +kernel
theorem dL_likes_19 : decode cL_likes 19 = .ok (.iconst 0, 1) := by decide +kernel
theorem dL_likes_20 : decode cL_likes 20 = .ok (.ireturn, 1) := by decide +kernel
def ML_likes (g : RO) : MT := ((RL, cL_likes, 4, 9, 2, 12, false, some .int), [(13, 6, 0)], [], [], [], [], 0, [(143, 2, 2, 5, 8, (fun _ _ => 2), (fun _ _ => 12), yX1_likes, spOf (MX1_likes g))], [], [], 0, [(0, 10, 13, 19), (0, 10, 16, 74)], [(19, "java/lang/IndexOutOfBoundsException"), (74, "java/lang/IllegalStateException")], g)
section
variable {g : RO} {Q : Ot → Hw → Prop} {st : List Value} {w : Hw} {k n p q : Nat} {a b : Int32} {x y : Int64} {u v : Value} {l0 l1 l2 l3 : Option Value}
theorem eL_likes_0 : WP (ML_likes g) Q (0, [l0, l1, some (.ref p), l3], st, w, k, n) = WP (ML_likes g) Q (1, [l0, l1, some (.ref p), l3], .ref p :: st, w, k, n) := Eq.trans (WP_at (M := (ML_likes g)) rfl dL_likes_0 (Or.inr rfl)) rfl
theorem eL_likes_0N : WP (ML_likes g) Q (0, [l0, l1, some .null, l3], st, w, k, n) = WP (ML_likes g) Q (1, [l0, l1, some .null, l3], .null :: st, w, k, n) := Eq.trans (WP_at (M := (ML_likes g)) rfl dL_likes_0 (Or.inr rfl)) rfl
theorem eL_likes_1 : WP (ML_likes g) Q (1, [some (.ref p), l1, l2, l3], st, w, k, n) = WP (ML_likes g) Q (2, [some (.ref p), l1, l2, l3], .ref p :: st, w, k, n) := Eq.trans (WP_at (M := (ML_likes g)) rfl dL_likes_1 (Or.inr rfl)) rfl
theorem eL_likes_1N : WP (ML_likes g) Q (1, [some .null, l1, l2, l3], st, w, k, n) = WP (ML_likes g) Q (2, [some .null, l1, l2, l3], .null :: st, w, k, n) := Eq.trans (WP_at (M := (ML_likes g)) rfl dL_likes_1 (Or.inr rfl)) rfl
theorem eL_likes_2 : WP (ML_likes g) Q (2, [l0, some (.int a), l2, l3], st, w, k, n) = WP (ML_likes g) Q (3, [l0, some (.int a), l2, l3], .int a :: st, w, k, n) := Eq.trans (WP_at (M := (ML_likes g)) rfl dL_likes_2 (Or.inr rfl)) rfl
theorem eL_likes_3 {z0 : Int32} : WP (ML_likes g) Q (3, [l0, l1, l2, l3], .int z0 :: .ref p :: st, w, k, n) = (go (rd g w p) 5 (fun _ => True) ∧ wt st ≤ 8 ∧ k + 2 ≤ 2 ∧ n + 12 ≤ 12 ∧ WP (MX1_likes g) (kx (fun v w' => WP (ML_likes g) Q (6, [l0, l1, l2, l3], v.toList ++ st, w', k + 2, n + 12)) (fun E w' => hgo (ML_likes g) Q (WP (ML_likes g) Q) 3 [l0, l1, l2, l3] E w' (k + 2) (n + 12))) (0, [some (.ref p), some (.int z0)], [], w, 0, 0)) := csVH (M := (ML_likes g)) (mc := (fun _ _ => 2)) (ms := (fun _ _ => 12)) (As := [.int z0]) (rest := st) (MX1_likes g) rfl dL_likes_3 (by exact fun h => nomatch (show (none : Option Nat) = some 11 from h)) (by exact fun h => nomatch (show (none : Option Nat) = some 15 from h)) rfl rfl (by decide) (Nat.le_of_ble_eq_true rfl) (Nat.le_of_ble_eq_true rfl) rfl
theorem eL_likes_6 : WP (ML_likes g) Q (6, [l0, l1, l2, l3], .int a :: st, w, k, n) = WP (ML_likes g) Q (7, [l0, l1, l2, l3], .long a.toInt64 :: st, w, k, n) := Eq.trans (WP_at (M := (ML_likes g)) rfl dL_likes_6 (Or.inr rfl)) rfl
theorem eL_likes_7 : WP (ML_likes g) Q (7, [l0, l1, l2, l3], v :: .ref p :: st, w, k, n) = go (w p) 6 fun fs => 0 < fs.length ∧ (narrow (.long) v = v ∧ fits (.long) v = true) ∧ WP (ML_likes g) Q (10, [l0, l1, l2, l3], st, upw w p (.inr (6, fs.set 0 v)), k, n) := put_e (q := (RX2, TX2, 2)) rfl dL_likes_7 rfl rfl (tyX2_ok 0 (by decide)) (Or.inl rfl)
theorem eL_likes_10 : WP (ML_likes g) Q (10, [l0, l1, l2, l3], st, w, k, n) = WP (ML_likes g) Q (19, [l0, l1, l2, l3], st, w, k, n) := goto_e rfl dL_likes_10 (by decide)
theorem eL_likes_13 : WP (ML_likes g) Q (13, [l0, l1, l2, l3], .ref p :: st, w, k, n) = WP (ML_likes g) Q (14, [l0, l1, nl l2, some (.ref p)], st, w, k, n) := by rw [WP_at (M := (ML_likes g)) rfl dL_likes_13 (Or.inr rfl)]; exact and_t (Nat.le_of_ble_eq_true rfl)
theorem eL_likes_13N : WP (ML_likes g) Q (13, [l0, l1, l2, l3], .null :: st, w, k, n) = WP (ML_likes g) Q (14, [l0, l1, nl l2, some (.null)], st, w, k, n) := by rw [WP_at (M := (ML_likes g)) rfl dL_likes_13 (Or.inr rfl)]; exact and_t (Nat.le_of_ble_eq_true rfl)
theorem eL_likes_14 : WP (ML_likes g) Q (14, [l0, l1, l2, l3], st, w, k, n) = WP (ML_likes g) Q (15, [l0, l1, l2, l3], .int 1 :: st, w, k, n) := iconst_e rfl dL_likes_14 (by decide)
theorem eL_likes_15 : WP (ML_likes g) Q (15, [l0, l1, l2, l3], [.int a], w, k, n) = (k ≤ 2 ∧ n ≤ 12 ∧ Q (.inl (some (.int a))) w) := iretI_e rfl dL_likes_15 rfl
theorem eL_likes_16 : WP (ML_likes g) Q (16, [l0, l1, l2, l3], .ref p :: st, w, k, n) = WP (ML_likes g) Q (17, [l0, l1, nl l2, some (.ref p)], st, w, k, n) := by rw [WP_at (M := (ML_likes g)) rfl dL_likes_16 (Or.inr rfl)]; exact and_t (Nat.le_of_ble_eq_true rfl)
theorem eL_likes_16N : WP (ML_likes g) Q (16, [l0, l1, l2, l3], .null :: st, w, k, n) = WP (ML_likes g) Q (17, [l0, l1, nl l2, some (.null)], st, w, k, n) := by rw [WP_at (M := (ML_likes g)) rfl dL_likes_16 (Or.inr rfl)]; exact and_t (Nat.le_of_ble_eq_true rfl)
theorem eL_likes_17 : WP (ML_likes g) Q (17, [l0, l1, l2, l3], st, w, k, n) = WP (ML_likes g) Q (18, [l0, l1, l2, l3], .int 2 :: st, w, k, n) := iconst_e rfl dL_likes_17 (by decide)
theorem eL_likes_18 : WP (ML_likes g) Q (18, [l0, l1, l2, l3], [.int a], w, k, n) = (k ≤ 2 ∧ n ≤ 12 ∧ Q (.inl (some (.int a))) w) := iretI_e rfl dL_likes_18 rfl
theorem eL_likes_19 : WP (ML_likes g) Q (19, [l0, l1, l2, l3], st, w, k, n) = WP (ML_likes g) Q (20, [l0, l1, l2, l3], .int 0 :: st, w, k, n) := iconst_e rfl dL_likes_19 (by decide)
theorem eL_likes_20 : WP (ML_likes g) Q (20, [l0, l1, l2, l3], [.int a], w, k, n) = (k ≤ 2 ∧ n ≤ 12 ∧ Q (.inl (some (.int a))) w) := iretI_e rfl dL_likes_20 rfl
end
theorem wk_1055 : (.code yX1_likes cX1_likes 2 (some .int) : Jvm.Cond) ∈ WS := WS_t5 37 rfl rfl
theorem wk_1052 : (.methodLink RL 143 yX1_likes : Jvm.Cond) ∈ WS := WS_t5 34 rfl rfl
theorem wk_1053 : (.instanceMethod yX1_likes : Jvm.Cond) ∈ WS := WS_t5 35 rfl rfl
theorem wk_1054 : (.selects RX1 yX1_likes yX1_likes : Jvm.Cond) ∈ WS := WS_t5 36 rfl rfl
theorem vML_likes {l : Launch} (hl : l.stackTraces = false) (G : GT) : vM l G (ML_likes (gg G)) := ⟨fun i c j h => lookup_all (l := (ML_likes (gg G)).fld) (P := fun i e => vFld RL i e.1 e.2) (all_c (vF_RL_13) (all_n)) i (c, j) h, fun i c fs h => lookup_all (l := (ML_likes (gg G)).new) (P := fun i e => vNew RL i e.1 e.2) (all_n) i (c, fs) h, lookup_all (l := (ML_likes (gg G)).anew) (P := fun i e => vANew RL i e) (all_n), lookup_all (l := (ML_likes (gg G)).lng) (P := fun i e => Jvm.Cond.constantLong RL i e ∈ WS) (all_n), lookup_all (l := (ML_likes (gg G)).thr) (P := fun i e => vThr RL cL_likes i e) (all_n), fun h => absurd rfl h, lookup_all (l := (ML_likes (gg G)).cal) (P := fun i e => vCal l G RL i e) (all_c (⟨cX1_likes, 2, some .int, fun y hy => by subst hy; exact ⟨by decide, ⟨_, wk_1055, okX1_likes hl, Or.inl ⟨Nat.ne_of_beq_eq_false rfl, rfl⟩⟩, wk_59, ⟨(by decide : yX1_likes.cls ≠ "java/lang/invoke/MethodHandle"), (by decide : yX1_likes.cls ≠ "java/lang/invoke/VarHandle")⟩, ⟨(by decide +kernel : (parseMethodDescriptor yX1_likes.desc).map (fun d => d.parameters.length + 1) = some 2), wk_1052, wk_1053, wk_1054, (RX1, TX1, 7), rfl, rfl⟩⟩⟩) (all_n)), lookup_all (l := (ML_likes (gg G)).stt) (P := fun i e => vStt G RL i e) (all_n), lookup_all (l := (ML_likes (gg G)).cst) (P := fun i e => vCst RL i e) (all_n), fun h => absurd rfl h, rfl, all_c (⟨"java/lang/IndexOutOfBoundsException", by decide, rfl, by decide, wk_348⟩) (all_c (⟨"java/lang/IllegalStateException", by decide, rfl, by decide, wk_869⟩) (all_n))⟩
theorem okL_likes {l : Launch} (hl : l.stackTraces = false) {G : GT} : ∀ (args : List Value) (w : Hw) (S : Ot → Hw → Prop), spOf (ML_likes (gg G)) args w S → CX l G yL_likes (.codeWith yL_likes cL_likes 4 (some .int) [(0, 10, 13, 19), (0, 10, 16, 74)]) 9 2 12 args w S := CX_spH (M := ML_likes (gg G)) (y := yL_likes) hl (by decide) rfl (vML_likes hl G) (fun h => by cases h)
/-! RangecardLaw.lay(LRangecard;ILRangecardLaw$Out;)I -/
theorem dL_lay_0 : decode cL_lay 0 = .ok (.aload_n 2, 1) := by decide +kernel
theorem dL_lay_1 : decode cL_lay 1 = .ok (.aload_n 0, 1) := by decide +kernel
theorem dL_lay_2 : decode cL_lay 2 = .ok (.iload_n 1, 1) := by decide +kernel
theorem dL_lay_3 : decode cL_lay 3 = .ok (.invokevirtual 146, 3) := by decide +kernel
theorem dL_lay_6 : decode cL_lay 6 = .ok (.i2l, 1) := by decide +kernel
theorem dL_lay_7 : decode cL_lay 7 = .ok (.putfield 13, 3) := by decide +kernel
theorem dL_lay_10 : decode cL_lay 10 = .ok (.goto 9, 3) := by decide +kernel
theorem dL_lay_13 : decode cL_lay 13 = .ok (.astore_n 3, 1) := by decide +kernel
theorem dL_lay_14 : decode cL_lay 14 = .ok (.iconst 1, 1) := by decide +kernel
theorem dL_lay_15 : decode cL_lay 15 = .ok (.ireturn, 1) := by decide +kernel
theorem dL_lay_16 : decode cL_lay 16 = .ok (.astore_n 3, 1) := by decide +kernel
theorem dL_lay_17 : decode cL_lay 17 = .ok (.iconst 2, 1) := by decide +kernel
theorem dL_lay_18 : decode cL_lay 18 = .ok (.ireturn, 1) := by decide +kernel
theorem dL_lay_19 : decode cL_lay 19 = .ok (.iconst 0, 1) := by decide +kernel
theorem dL_lay_20 : decode cL_lay 20 = .ok (.ireturn, 1) := by decide +kernel
def ML_lay (g : RO) : MT := ((RL, cL_lay, 4, 9, 2, 12, false, some .int), [(13, 6, 0)], [], [], [], [], 0, [(146, 2, 2, 5, 8, (fun _ _ => 2), (fun _ _ => 12), yX1_lay, spOf (MX1_lay g))], [], [], 0, [(0, 10, 13, 19), (0, 10, 16, 74)], [(19, "java/lang/IndexOutOfBoundsException"), (74, "java/lang/IllegalStateException")], g)
section
variable {g : RO} {Q : Ot → Hw → Prop} {st : List Value} {w : Hw} {k n p q : Nat} {a b : Int32} {x y : Int64} {u v : Value} {l0 l1 l2 l3 : Option Value}
theorem eL_lay_0 : WP (ML_lay g) Q (0, [l0, l1, some (.ref p), l3], st, w, k, n) = WP (ML_lay g) Q (1, [l0, l1, some (.ref p), l3], .ref p :: st, w, k, n) := Eq.trans (WP_at (M := (ML_lay g)) rfl dL_lay_0 (Or.inr rfl)) rfl
theorem eL_lay_0N : WP (ML_lay g) Q (0, [l0, l1, some .null, l3], st, w, k, n) = WP (ML_lay g) Q (1, [l0, l1, some .null, l3], .null :: st, w, k, n) := Eq.trans (WP_at (M := (ML_lay g)) rfl dL_lay_0 (Or.inr rfl)) rfl
theorem eL_lay_1 : WP (ML_lay g) Q (1, [some (.ref p), l1, l2, l3], st, w, k, n) = WP (ML_lay g) Q (2, [some (.ref p), l1, l2, l3], .ref p :: st, w, k, n) := Eq.trans (WP_at (M := (ML_lay g)) rfl dL_lay_1 (Or.inr rfl)) rfl
theorem eL_lay_1N : WP (ML_lay g) Q (1, [some .null, l1, l2, l3], st, w, k, n) = WP (ML_lay g) Q (2, [some .null, l1, l2, l3], .null :: st, w, k, n) := Eq.trans (WP_at (M := (ML_lay g)) rfl dL_lay_1 (Or.inr rfl)) rfl
theorem eL_lay_2 : WP (ML_lay g) Q (2, [l0, some (.int a), l2, l3], st, w, k, n) = WP (ML_lay g) Q (3, [l0, some (.int a), l2, l3], .int a :: st, w, k, n) := Eq.trans (WP_at (M := (ML_lay g)) rfl dL_lay_2 (Or.inr rfl)) rfl
theorem eL_lay_3 {z0 : Int32} : WP (ML_lay g) Q (3, [l0, l1, l2, l3], .int z0 :: .ref p :: st, w, k, n) = (go (rd g w p) 5 (fun _ => True) ∧ wt st ≤ 8 ∧ k + 2 ≤ 2 ∧ n + 12 ≤ 12 ∧ WP (MX1_lay g) (kx (fun v w' => WP (ML_lay g) Q (6, [l0, l1, l2, l3], v.toList ++ st, w', k + 2, n + 12)) (fun E w' => hgo (ML_lay g) Q (WP (ML_lay g) Q) 3 [l0, l1, l2, l3] E w' (k + 2) (n + 12))) (0, [some (.ref p), some (.int z0), none], [], w, 0, 0)) := csVH (M := (ML_lay g)) (mc := (fun _ _ => 2)) (ms := (fun _ _ => 12)) (As := [.int z0]) (rest := st) (MX1_lay g) rfl dL_lay_3 (by exact fun h => nomatch (show (none : Option Nat) = some 11 from h)) (by exact fun h => nomatch (show (none : Option Nat) = some 15 from h)) rfl rfl (by decide) (Nat.le_of_ble_eq_true rfl) (Nat.le_of_ble_eq_true rfl) rfl
theorem eL_lay_6 : WP (ML_lay g) Q (6, [l0, l1, l2, l3], .int a :: st, w, k, n) = WP (ML_lay g) Q (7, [l0, l1, l2, l3], .long a.toInt64 :: st, w, k, n) := Eq.trans (WP_at (M := (ML_lay g)) rfl dL_lay_6 (Or.inr rfl)) rfl
theorem eL_lay_7 : WP (ML_lay g) Q (7, [l0, l1, l2, l3], v :: .ref p :: st, w, k, n) = go (w p) 6 fun fs => 0 < fs.length ∧ (narrow (.long) v = v ∧ fits (.long) v = true) ∧ WP (ML_lay g) Q (10, [l0, l1, l2, l3], st, upw w p (.inr (6, fs.set 0 v)), k, n) := put_e (q := (RX2, TX2, 2)) rfl dL_lay_7 rfl rfl (tyX2_ok 0 (by decide)) (Or.inl rfl)
theorem eL_lay_10 : WP (ML_lay g) Q (10, [l0, l1, l2, l3], st, w, k, n) = WP (ML_lay g) Q (19, [l0, l1, l2, l3], st, w, k, n) := goto_e rfl dL_lay_10 (by decide)
theorem eL_lay_13 : WP (ML_lay g) Q (13, [l0, l1, l2, l3], .ref p :: st, w, k, n) = WP (ML_lay g) Q (14, [l0, l1, nl l2, some (.ref p)], st, w, k, n) := by rw [WP_at (M := (ML_lay g)) rfl dL_lay_13 (Or.inr rfl)]; exact and_t (Nat.le_of_ble_eq_true rfl)
theorem eL_lay_13N : WP (ML_lay g) Q (13, [l0, l1, l2, l3], .null :: st, w, k, n) = WP (ML_lay g) Q (14, [l0, l1, nl l2, some (.null)], st, w, k, n) := by rw [WP_at (M := (ML_lay g)) rfl dL_lay_13 (Or.inr rfl)]; exact and_t (Nat.le_of_ble_eq_true rfl)
theorem eL_lay_14 : WP (ML_lay g) Q (14, [l0, l1, l2, l3], st, w, k, n) = WP (ML_lay g) Q (15, [l0, l1, l2, l3], .int 1 :: st, w, k, n) := iconst_e rfl dL_lay_14 (by decide)
theorem eL_lay_15 : WP (ML_lay g) Q (15, [l0, l1, l2, l3], [.int a], w, k, n) = (k ≤ 2 ∧ n ≤ 12 ∧ Q (.inl (some (.int a))) w) := iretI_e rfl dL_lay_15 rfl
theorem eL_lay_16 : WP (ML_lay g) Q (16, [l0, l1, l2, l3], .ref p :: st, w, k, n) = WP (ML_lay g) Q (17, [l0, l1, nl l2, some (.ref p)], st, w, k, n) := by rw [WP_at (M := (ML_lay g)) rfl dL_lay_16 (Or.inr rfl)]; exact and_t (Nat.le_of_ble_eq_true rfl)
theorem eL_lay_16N : WP (ML_lay g) Q (16, [l0, l1, l2, l3], .null :: st, w, k, n) = WP (ML_lay g) Q (17, [l0, l1, nl l2, some (.null)], st, w, k, n) := by rw [WP_at (M := (ML_lay g)) rfl dL_lay_16 (Or.inr rfl)]; exact and_t (Nat.le_of_ble_eq_true rfl)
theorem eL_lay_17 : WP (ML_lay g) Q (17, [l0, l1, l2, l3], st, w, k, n) = WP (ML_lay g) Q (18, [l0, l1, l2, l3], .int 2 :: st, w, k, n) := iconst_e rfl dL_lay_17 (by decide)
theorem eL_lay_18 : WP (ML_lay g) Q (18, [l0, l1, l2, l3], [.int a], w, k, n) = (k ≤ 2 ∧ n ≤ 12 ∧ Q (.inl (some (.int a))) w) := iretI_e rfl dL_lay_18 rfl
theorem eL_lay_19 : WP (ML_lay g) Q (19, [l0, l1, l2, l3], st, w, k, n) = WP (ML_lay g) Q (20, [l0, l1, l2, l3], .int 0 :: st, w, k, n) := iconst_e rfl dL_lay_19 (by decide)
theorem eL_lay_20 : WP (ML_lay g) Q (20, [l0, l1, l2, l3], [.int a], w, k, n) = (k ≤ 2 ∧ n ≤ 12 ∧ Q (.inl (some (.int a))) w) := iretI_e rfl dL_lay_20 rfl
end
theorem wk_1062 : (.code yX1_lay cX1_lay 3 (some .int) : Jvm.Cond) ∈ WS := WS_t5 44 rfl rfl
theorem wk_1059 : (.methodLink RL 146 yX1_lay : Jvm.Cond) ∈ WS := WS_t5 41 rfl rfl
theorem wk_1060 : (.instanceMethod yX1_lay : Jvm.Cond) ∈ WS := WS_t5 42 rfl rfl
theorem wk_1061 : (.selects RX1 yX1_lay yX1_lay : Jvm.Cond) ∈ WS := WS_t5 43 rfl rfl
theorem vML_lay {l : Launch} (hl : l.stackTraces = false) (G : GT) : vM l G (ML_lay (gg G)) := ⟨fun i c j h => lookup_all (l := (ML_lay (gg G)).fld) (P := fun i e => vFld RL i e.1 e.2) (all_c (vF_RL_13) (all_n)) i (c, j) h, fun i c fs h => lookup_all (l := (ML_lay (gg G)).new) (P := fun i e => vNew RL i e.1 e.2) (all_n) i (c, fs) h, lookup_all (l := (ML_lay (gg G)).anew) (P := fun i e => vANew RL i e) (all_n), lookup_all (l := (ML_lay (gg G)).lng) (P := fun i e => Jvm.Cond.constantLong RL i e ∈ WS) (all_n), lookup_all (l := (ML_lay (gg G)).thr) (P := fun i e => vThr RL cL_lay i e) (all_n), fun h => absurd rfl h, lookup_all (l := (ML_lay (gg G)).cal) (P := fun i e => vCal l G RL i e) (all_c (⟨cX1_lay, 3, some .int, fun y hy => by subst hy; exact ⟨by decide, ⟨_, wk_1062, okX1_lay hl, Or.inl ⟨Nat.ne_of_beq_eq_false rfl, rfl⟩⟩, wk_59, ⟨(by decide : yX1_lay.cls ≠ "java/lang/invoke/MethodHandle"), (by decide : yX1_lay.cls ≠ "java/lang/invoke/VarHandle")⟩, ⟨(by decide +kernel : (parseMethodDescriptor yX1_lay.desc).map (fun d => d.parameters.length + 1) = some 2), wk_1059, wk_1060, wk_1061, (RX1, TX1, 7), rfl, rfl⟩⟩⟩) (all_n)), lookup_all (l := (ML_lay (gg G)).stt) (P := fun i e => vStt G RL i e) (all_n), lookup_all (l := (ML_lay (gg G)).cst) (P := fun i e => vCst RL i e) (all_n), fun h => absurd rfl h, rfl, all_c (⟨"java/lang/IndexOutOfBoundsException", by decide, rfl, by decide, wk_348⟩) (all_c (⟨"java/lang/IllegalStateException", by decide, rfl, by decide, wk_869⟩) (all_n))⟩
theorem okL_lay {l : Launch} (hl : l.stackTraces = false) {G : GT} : ∀ (args : List Value) (w : Hw) (S : Ot → Hw → Prop), spOf (ML_lay (gg G)) args w S → CX l G yL_lay (.codeWith yL_lay cL_lay 4 (some .int) [(0, 10, 13, 19), (0, 10, 16, 74)]) 9 2 12 args w S := CX_spH (M := ML_lay (gg G)) (y := yL_lay) hl (by decide) rfl (vML_lay hl G) (fun h => by cases h)
/-! RangecardLaw.seek(LRangecard;IZLRangecardLaw$Out;)I -/
theorem dL_seek_0 : decode cL_seek 0 = .ok (.aload_n 3, 1) := by decide +kernel
theorem dL_seek_1 : decode cL_seek 1 = .ok (.aload_n 0, 1) := by decide +kernel
theorem dL_seek_2 : decode cL_seek 2 = .ok (.iload_n 1, 1) := by decide +kernel
theorem dL_seek_3 : decode cL_seek 3 = .ok (.iload_n 2, 1) := by decide +kernel
theorem dL_seek_4 : decode cL_seek 4 = .ok (.invokevirtual 149, 3) := by decide +kernel
theorem dL_seek_7 : decode cL_seek 7 = .ok (.i2l, 1) := by decide +kernel
theorem dL_seek_8 : decode cL_seek 8 = .ok (.putfield 13, 3) := by decide +kernel
theorem dL_seek_11 : decode cL_seek 11 = .ok (.goto 11, 3) := by decide +kernel
theorem dL_seek_14 : decode cL_seek 14 = .ok (.astore 4, 2) := by decide +kernel
theorem dL_seek_16 : decode cL_seek 16 = .ok (.iconst 1, 1) := by decide +kernel
theorem dL_seek_17 : decode cL_seek 17 = .ok (.ireturn, 1) := by decide +kernel
theorem dL_seek_18 : decode cL_seek 18 = .ok (.astore 4, 2) := by decide +kernel
theorem dL_seek_20 : decode cL_seek 20 = .ok (.iconst 2, 1) := by decide +kernel
theorem dL_seek_21 : decode cL_seek 21 = .ok (.ireturn, 1) := by decide +kernel
theorem dL_seek_22 : decode cL_seek 22 = .ok (.iconst 0, 1) := by decide +kernel
theorem dL_seek_23 : decode cL_seek 23 = .ok (.ireturn, 1) := by decide +kernel
def ML_seek (g : RO) : MT := ((RL, cL_seek, 5, 9, 2, 12, false, some .int), [(13, 6, 0)], [], [], [], [], 0, [(149, 2, 3, 5, 8, (fun _ _ => 2), (fun _ _ => 12), yX1_seek, spOf (MX1_seek g))], [], [], 0, [(0, 11, 14, 19), (0, 11, 18, 74)], [(19, "java/lang/IndexOutOfBoundsException"), (74, "java/lang/IllegalStateException")], g)
section
variable {g : RO} {Q : Ot → Hw → Prop} {st : List Value} {w : Hw} {k n p q : Nat} {a b : Int32} {x y : Int64} {u v : Value} {l0 l1 l2 l3 l4 : Option Value}
theorem eL_seek_0 : WP (ML_seek g) Q (0, [l0, l1, l2, some (.ref p), l4], st, w, k, n) = WP (ML_seek g) Q (1, [l0, l1, l2, some (.ref p), l4], .ref p :: st, w, k, n) := Eq.trans (WP_at (M := (ML_seek g)) rfl dL_seek_0 (Or.inr rfl)) rfl
theorem eL_seek_0N : WP (ML_seek g) Q (0, [l0, l1, l2, some .null, l4], st, w, k, n) = WP (ML_seek g) Q (1, [l0, l1, l2, some .null, l4], .null :: st, w, k, n) := Eq.trans (WP_at (M := (ML_seek g)) rfl dL_seek_0 (Or.inr rfl)) rfl
theorem eL_seek_1 : WP (ML_seek g) Q (1, [some (.ref p), l1, l2, l3, l4], st, w, k, n) = WP (ML_seek g) Q (2, [some (.ref p), l1, l2, l3, l4], .ref p :: st, w, k, n) := Eq.trans (WP_at (M := (ML_seek g)) rfl dL_seek_1 (Or.inr rfl)) rfl
theorem eL_seek_1N : WP (ML_seek g) Q (1, [some .null, l1, l2, l3, l4], st, w, k, n) = WP (ML_seek g) Q (2, [some .null, l1, l2, l3, l4], .null :: st, w, k, n) := Eq.trans (WP_at (M := (ML_seek g)) rfl dL_seek_1 (Or.inr rfl)) rfl
theorem eL_seek_2 : WP (ML_seek g) Q (2, [l0, some (.int a), l2, l3, l4], st, w, k, n) = WP (ML_seek g) Q (3, [l0, some (.int a), l2, l3, l4], .int a :: st, w, k, n) := Eq.trans (WP_at (M := (ML_seek g)) rfl dL_seek_2 (Or.inr rfl)) rfl
theorem eL_seek_3 : WP (ML_seek g) Q (3, [l0, l1, some (.int a), l3, l4], st, w, k, n) = WP (ML_seek g) Q (4, [l0, l1, some (.int a), l3, l4], .int a :: st, w, k, n) := Eq.trans (WP_at (M := (ML_seek g)) rfl dL_seek_3 (Or.inr rfl)) rfl
theorem eL_seek_4 {z0 : Int32} {z1 : Int32} : WP (ML_seek g) Q (4, [l0, l1, l2, l3, l4], .int z1 :: .int z0 :: .ref p :: st, w, k, n) = (go (rd g w p) 5 (fun _ => True) ∧ wt st ≤ 8 ∧ k + 2 ≤ 2 ∧ n + 12 ≤ 12 ∧ WP (MX1_seek g) (kx (fun v w' => WP (ML_seek g) Q (7, [l0, l1, l2, l3, l4], v.toList ++ st, w', k + 2, n + 12)) (fun E w' => hgo (ML_seek g) Q (WP (ML_seek g) Q) 4 [l0, l1, l2, l3, l4] E w' (k + 2) (n + 12))) (0, [some (.ref p), some (.int z0), some (.int z1), none], [], w, 0, 0)) := csVH (M := (ML_seek g)) (mc := (fun _ _ => 2)) (ms := (fun _ _ => 12)) (As := [.int z0, .int z1]) (rest := st) (MX1_seek g) rfl dL_seek_4 (by exact fun h => nomatch (show (none : Option Nat) = some 11 from h)) (by exact fun h => nomatch (show (none : Option Nat) = some 15 from h)) rfl rfl (by decide) (Nat.le_of_ble_eq_true rfl) (Nat.le_of_ble_eq_true rfl) rfl
theorem eL_seek_7 : WP (ML_seek g) Q (7, [l0, l1, l2, l3, l4], .int a :: st, w, k, n) = WP (ML_seek g) Q (8, [l0, l1, l2, l3, l4], .long a.toInt64 :: st, w, k, n) := Eq.trans (WP_at (M := (ML_seek g)) rfl dL_seek_7 (Or.inr rfl)) rfl
theorem eL_seek_8 : WP (ML_seek g) Q (8, [l0, l1, l2, l3, l4], v :: .ref p :: st, w, k, n) = go (w p) 6 fun fs => 0 < fs.length ∧ (narrow (.long) v = v ∧ fits (.long) v = true) ∧ WP (ML_seek g) Q (11, [l0, l1, l2, l3, l4], st, upw w p (.inr (6, fs.set 0 v)), k, n) := put_e (q := (RX2, TX2, 2)) rfl dL_seek_8 rfl rfl (tyX2_ok 0 (by decide)) (Or.inl rfl)
theorem eL_seek_11 : WP (ML_seek g) Q (11, [l0, l1, l2, l3, l4], st, w, k, n) = WP (ML_seek g) Q (22, [l0, l1, l2, l3, l4], st, w, k, n) := goto_e rfl dL_seek_11 (by decide)
theorem eL_seek_14 : WP (ML_seek g) Q (14, [l0, l1, l2, l3, l4], .ref p :: st, w, k, n) = WP (ML_seek g) Q (16, [l0, l1, l2, nl l3, some (.ref p)], st, w, k, n) := by rw [WP_at (M := (ML_seek g)) rfl dL_seek_14 (Or.inr rfl)]; exact and_t (Nat.le_of_ble_eq_true rfl)
theorem eL_seek_14N : WP (ML_seek g) Q (14, [l0, l1, l2, l3, l4], .null :: st, w, k, n) = WP (ML_seek g) Q (16, [l0, l1, l2, nl l3, some (.null)], st, w, k, n) := by rw [WP_at (M := (ML_seek g)) rfl dL_seek_14 (Or.inr rfl)]; exact and_t (Nat.le_of_ble_eq_true rfl)
theorem eL_seek_16 : WP (ML_seek g) Q (16, [l0, l1, l2, l3, l4], st, w, k, n) = WP (ML_seek g) Q (17, [l0, l1, l2, l3, l4], .int 1 :: st, w, k, n) := iconst_e rfl dL_seek_16 (by decide)
theorem eL_seek_17 : WP (ML_seek g) Q (17, [l0, l1, l2, l3, l4], [.int a], w, k, n) = (k ≤ 2 ∧ n ≤ 12 ∧ Q (.inl (some (.int a))) w) := iretI_e rfl dL_seek_17 rfl
theorem eL_seek_18 : WP (ML_seek g) Q (18, [l0, l1, l2, l3, l4], .ref p :: st, w, k, n) = WP (ML_seek g) Q (20, [l0, l1, l2, nl l3, some (.ref p)], st, w, k, n) := by rw [WP_at (M := (ML_seek g)) rfl dL_seek_18 (Or.inr rfl)]; exact and_t (Nat.le_of_ble_eq_true rfl)
theorem eL_seek_18N : WP (ML_seek g) Q (18, [l0, l1, l2, l3, l4], .null :: st, w, k, n) = WP (ML_seek g) Q (20, [l0, l1, l2, nl l3, some (.null)], st, w, k, n) := by rw [WP_at (M := (ML_seek g)) rfl dL_seek_18 (Or.inr rfl)]; exact and_t (Nat.le_of_ble_eq_true rfl)
theorem eL_seek_20 : WP (ML_seek g) Q (20, [l0, l1, l2, l3, l4], st, w, k, n) = WP (ML_seek g) Q (21, [l0, l1, l2, l3, l4], .int 2 :: st, w, k, n) := iconst_e rfl dL_seek_20 (by decide)
theorem eL_seek_21 : WP (ML_seek g) Q (21, [l0, l1, l2, l3, l4], [.int a], w, k, n) = (k ≤ 2 ∧ n ≤ 12 ∧ Q (.inl (some (.int a))) w) := iretI_e rfl dL_seek_21 rfl
theorem eL_seek_22 : WP (ML_seek g) Q (22, [l0, l1, l2, l3, l4], st, w, k, n) = WP (ML_seek g) Q (23, [l0, l1, l2, l3, l4], .int 0 :: st, w, k, n) := iconst_e rfl dL_seek_22 (by decide)
theorem eL_seek_23 : WP (ML_seek g) Q (23, [l0, l1, l2, l3, l4], [.int a], w, k, n) = (k ≤ 2 ∧ n ≤ 12 ∧ Q (.inl (some (.int a))) w) := iretI_e rfl dL_seek_23 rfl
end
theorem wk_1069 : (.code yX1_seek cX1_seek 4 (some .int) : Jvm.Cond) ∈ WS := WS_t5 51 rfl rfl
theorem wk_1066 : (.methodLink RL 149 yX1_seek : Jvm.Cond) ∈ WS := WS_t5 48 rfl rfl
theorem wk_1067 : (.instanceMethod yX1_seek : Jvm.Cond) ∈ WS := WS_t5 49 rfl rfl
theorem wk_1068 : (.selects RX1 yX1_seek yX1_seek : Jvm.Cond) ∈ WS := WS_t5 50 rfl rfl
theorem vML_seek {l : Launch} (hl : l.stackTraces = false) (G : GT) : vM l G (ML_seek (gg G)) := ⟨fun i c j h => lookup_all (l := (ML_seek (gg G)).fld) (P := fun i e => vFld RL i e.1 e.2) (all_c (vF_RL_13) (all_n)) i (c, j) h, fun i c fs h => lookup_all (l := (ML_seek (gg G)).new) (P := fun i e => vNew RL i e.1 e.2) (all_n) i (c, fs) h, lookup_all (l := (ML_seek (gg G)).anew) (P := fun i e => vANew RL i e) (all_n), lookup_all (l := (ML_seek (gg G)).lng) (P := fun i e => Jvm.Cond.constantLong RL i e ∈ WS) (all_n), lookup_all (l := (ML_seek (gg G)).thr) (P := fun i e => vThr RL cL_seek i e) (all_n), fun h => absurd rfl h, lookup_all (l := (ML_seek (gg G)).cal) (P := fun i e => vCal l G RL i e) (all_c (⟨cX1_seek, 4, some .int, fun y hy => by subst hy; exact ⟨by decide, ⟨_, wk_1069, okX1_seek hl, Or.inl ⟨Nat.ne_of_beq_eq_false rfl, rfl⟩⟩, wk_59, ⟨(by decide : yX1_seek.cls ≠ "java/lang/invoke/MethodHandle"), (by decide : yX1_seek.cls ≠ "java/lang/invoke/VarHandle")⟩, ⟨(by decide +kernel : (parseMethodDescriptor yX1_seek.desc).map (fun d => d.parameters.length + 1) = some 3), wk_1066, wk_1067, wk_1068, (RX1, TX1, 7), rfl, rfl⟩⟩⟩) (all_n)), lookup_all (l := (ML_seek (gg G)).stt) (P := fun i e => vStt G RL i e) (all_n), lookup_all (l := (ML_seek (gg G)).cst) (P := fun i e => vCst RL i e) (all_n), fun h => absurd rfl h, rfl, all_c (⟨"java/lang/IndexOutOfBoundsException", by decide, rfl, by decide, wk_348⟩) (all_c (⟨"java/lang/IllegalStateException", by decide, rfl, by decide, wk_869⟩) (all_n))⟩
theorem okL_seek {l : Launch} (hl : l.stackTraces = false) {G : GT} : ∀ (args : List Value) (w : Hw) (S : Ot → Hw → Prop), spOf (ML_seek (gg G)) args w S → CX l G yL_seek (.codeWith yL_seek cL_seek 5 (some .int) [(0, 11, 14, 19), (0, 11, 18, 74)]) 9 2 12 args w S := CX_spH (M := ML_seek (gg G)) (y := yL_seek) hl (by decide) rfl (vML_seek hl G) (fun h => by cases h)
/-! RangecardLaw.howOften(LRangecard;ILRangecardLaw$Out;)I -/
theorem dL_howOften_0 : decode cL_howOften 0 = .ok (.aload_n 2, 1) := by decide +kernel
theorem dL_howOften_1 : decode cL_howOften 1 = .ok (.aload_n 0, 1) := by decide +kernel
theorem dL_howOften_2 : decode cL_howOften 2 = .ok (.iload_n 1, 1) := by decide +kernel
theorem dL_howOften_3 : decode cL_howOften 3 = .ok (.invokevirtual 152, 3) := by decide +kernel
theorem dL_howOften_6 : decode cL_howOften 6 = .ok (.i2l, 1) := by decide +kernel
theorem dL_howOften_7 : decode cL_howOften 7 = .ok (.putfield 13, 3) := by decide +kernel
theorem dL_howOften_10 : decode cL_howOften 10 = .ok (.goto 9, 3) := by decide +kernel
theorem dL_howOften_13 : decode cL_howOften 13 = .ok (.astore_n 3, 1) := by decide +kernel
theorem dL_howOften_14 : decode cL_howOften 14 = .ok (.iconst 1, 1) := by decide +kernel
theorem dL_howOften_15 : decode cL_howOften 15 = .ok (.ireturn, 1) := by decide +kernel
theorem dL_howOften_16 : decode cL_howOften 16 = .ok (.astore_n 3, 1) := by decide +kernel
theorem dL_howOften_17 : decode cL_howOften 17 = .ok (.iconst 2, 1) := by decide +kernel
theorem dL_howOften_18 : decode cL_howOften 18 = .ok (.ireturn, 1) := by decide +kernel
theorem dL_howOften_19 : decode cL_howOften 19 = .ok (.iconst 0, 1) := by decide +kernel
theorem dL_howOften_20 : decode cL_howOften 20 = .ok (.ireturn, 1) := by decide +kernel
def ML_howOften (g : RO) : MT := ((RL, cL_howOften, 4, 9, 2, 12, false, some .int), [(13, 6, 0)], [], [], [], [], 0, [(152, 2, 2, 5, 8, (fun _ _ => 2), (fun _ _ => 12), yX1_howOften, spOf (MX1_howOften g))], [], [], 0, [(0, 10, 13, 19), (0, 10, 16, 74)], [(19, "java/lang/IndexOutOfBoundsException"), (74, "java/lang/IllegalStateException")], g)
section
variable {g : RO} {Q : Ot → Hw → Prop} {st : List Value} {w : Hw} {k n p q : Nat} {a b : Int32} {x y : Int64} {u v : Value} {l0 l1 l2 l3 : Option Value}
theorem eL_howOften_0 : WP (ML_howOften g) Q (0, [l0, l1, some (.ref p), l3], st, w, k, n) = WP (ML_howOften g) Q (1, [l0, l1, some (.ref p), l3], .ref p :: st, w, k, n) := Eq.trans (WP_at (M := (ML_howOften g)) rfl dL_howOften_0 (Or.inr rfl)) rfl
theorem eL_howOften_0N : WP (ML_howOften g) Q (0, [l0, l1, some .null, l3], st, w, k, n) = WP (ML_howOften g) Q (1, [l0, l1, some .null, l3], .null :: st, w, k, n) := Eq.trans (WP_at (M := (ML_howOften g)) rfl dL_howOften_0 (Or.inr rfl)) rfl
theorem eL_howOften_1 : WP (ML_howOften g) Q (1, [some (.ref p), l1, l2, l3], st, w, k, n) = WP (ML_howOften g) Q (2, [some (.ref p), l1, l2, l3], .ref p :: st, w, k, n) := Eq.trans (WP_at (M := (ML_howOften g)) rfl dL_howOften_1 (Or.inr rfl)) rfl
theorem eL_howOften_1N : WP (ML_howOften g) Q (1, [some .null, l1, l2, l3], st, w, k, n) = WP (ML_howOften g) Q (2, [some .null, l1, l2, l3], .null :: st, w, k, n) := Eq.trans (WP_at (M := (ML_howOften g)) rfl dL_howOften_1 (Or.inr rfl)) rfl
theorem eL_howOften_2 : WP (ML_howOften g) Q (2, [l0, some (.int a), l2, l3], st, w, k, n) = WP (ML_howOften g) Q (3, [l0, some (.int a), l2, l3], .int a :: st, w, k, n) := Eq.trans (WP_at (M := (ML_howOften g)) rfl dL_howOften_2 (Or.inr rfl)) rfl
theorem eL_howOften_3 {z0 : Int32} : WP (ML_howOften g) Q (3, [l0, l1, l2, l3], .int z0 :: .ref p :: st, w, k, n) = (go (rd g w p) 5 (fun _ => True) ∧ wt st ≤ 8 ∧ k + 2 ≤ 2 ∧ n + 12 ≤ 12 ∧ WP (MX1_howOften g) (kx (fun v w' => WP (ML_howOften g) Q (6, [l0, l1, l2, l3], v.toList ++ st, w', k + 2, n + 12)) (fun E w' => hgo (ML_howOften g) Q (WP (ML_howOften g) Q) 3 [l0, l1, l2, l3] E w' (k + 2) (n + 12))) (0, [some (.ref p), some (.int z0)], [], w, 0, 0)) := csVH (M := (ML_howOften g)) (mc := (fun _ _ => 2)) (ms := (fun _ _ => 12)) (As := [.int z0]) (rest := st) (MX1_howOften g) rfl dL_howOften_3 (by exact fun h => nomatch (show (none : Option Nat) = some 11 from h)) (by exact fun h => nomatch (show (none : Option Nat) = some 15 from h)) rfl rfl (by decide) (Nat.le_of_ble_eq_true rfl) (Nat.le_of_ble_eq_true rfl) rfl
theorem eL_howOften_6 : WP (ML_howOften g) Q (6, [l0, l1, l2, l3], .int a :: st, w, k, n) = WP (ML_howOften g) Q (7, [l0, l1, l2, l3], .long a.toInt64 :: st, w, k, n) := Eq.trans (WP_at (M := (ML_howOften g)) rfl dL_howOften_6 (Or.inr rfl)) rfl
theorem eL_howOften_7 : WP (ML_howOften g) Q (7, [l0, l1, l2, l3], v :: .ref p :: st, w, k, n) = go (w p) 6 fun fs => 0 < fs.length ∧ (narrow (.long) v = v ∧ fits (.long) v = true) ∧ WP (ML_howOften g) Q (10, [l0, l1, l2, l3], st, upw w p (.inr (6, fs.set 0 v)), k, n) := put_e (q := (RX2, TX2, 2)) rfl dL_howOften_7 rfl rfl (tyX2_ok 0 (by decide)) (Or.inl rfl)
theorem eL_howOften_10 : WP (ML_howOften g) Q (10, [l0, l1, l2, l3], st, w, k, n) = WP (ML_howOften g) Q (19, [l0, l1, l2, l3], st, w, k, n) := goto_e rfl dL_howOften_10 (by decide)
theorem eL_howOften_13 : WP (ML_howOften g) Q (13, [l0, l1, l2, l3], .ref p :: st, w, k, n) = WP (ML_howOften g) Q (14, [l0, l1, nl l2, some (.ref p)], st, w, k, n) := by rw [WP_at (M := (ML_howOften g)) rfl dL_howOften_13 (Or.inr rfl)]; exact and_t (Nat.le_of_ble_eq_true rfl)
theorem eL_howOften_13N : WP (ML_howOften g) Q (13, [l0, l1, l2, l3], .null :: st, w, k, n) = WP (ML_howOften g) Q (14, [l0, l1, nl l2, some (.null)], st, w, k, n) := by rw [WP_at (M := (ML_howOften g)) rfl dL_howOften_13 (Or.inr rfl)]; exact and_t (Nat.le_of_ble_eq_true rfl)
theorem eL_howOften_14 : WP (ML_howOften g) Q (14, [l0, l1, l2, l3], st, w, k, n) = WP (ML_howOften g) Q (15, [l0, l1, l2, l3], .int 1 :: st, w, k, n) := iconst_e rfl dL_howOften_14 (by decide)
theorem eL_howOften_15 : WP (ML_howOften g) Q (15, [l0, l1, l2, l3], [.int a], w, k, n) = (k ≤ 2 ∧ n ≤ 12 ∧ Q (.inl (some (.int a))) w) := iretI_e rfl dL_howOften_15 rfl
theorem eL_howOften_16 : WP (ML_howOften g) Q (16, [l0, l1, l2, l3], .ref p :: st, w, k, n) = WP (ML_howOften g) Q (17, [l0, l1, nl l2, some (.ref p)], st, w, k, n) := by rw [WP_at (M := (ML_howOften g)) rfl dL_howOften_16 (Or.inr rfl)]; exact and_t (Nat.le_of_ble_eq_true rfl)
theorem eL_howOften_16N : WP (ML_howOften g) Q (16, [l0, l1, l2, l3], .null :: st, w, k, n) = WP (ML_howOften g) Q (17, [l0, l1, nl l2, some (.null)], st, w, k, n) := by rw [WP_at (M := (ML_howOften g)) rfl dL_howOften_16 (Or.inr rfl)]; exact and_t (Nat.le_of_ble_eq_true rfl)
theorem eL_howOften_17 : WP (ML_howOften g) Q (17, [l0, l1, l2, l3], st, w, k, n) = WP (ML_howOften g) Q (18, [l0, l1, l2, l3], .int 2 :: st, w, k, n) := iconst_e rfl dL_howOften_17 (by decide)
theorem eL_howOften_18 : WP (ML_howOften g) Q (18, [l0, l1, l2, l3], [.int a], w, k, n) = (k ≤ 2 ∧ n ≤ 12 ∧ Q (.inl (some (.int a))) w) := iretI_e rfl dL_howOften_18 rfl
theorem eL_howOften_19 : WP (ML_howOften g) Q (19, [l0, l1, l2, l3], st, w, k, n) = WP (ML_howOften g) Q (20, [l0, l1, l2, l3], .int 0 :: st, w, k, n) := iconst_e rfl dL_howOften_19 (by decide)
theorem eL_howOften_20 : WP (ML_howOften g) Q (20, [l0, l1, l2, l3], [.int a], w, k, n) = (k ≤ 2 ∧ n ≤ 12 ∧ Q (.inl (some (.int a))) w) := iretI_e rfl dL_howOften_20 rfl
end
theorem wk_1076 : (.code yX1_howOften cX1_howOften 2 (some .int) : Jvm.Cond) ∈ WS := WS_t5 58 rfl rfl
theorem wk_1073 : (.methodLink RL 152 yX1_howOften : Jvm.Cond) ∈ WS := WS_t5 55 rfl rfl
theorem wk_1074 : (.instanceMethod yX1_howOften : Jvm.Cond) ∈ WS := WS_t5 56 rfl rfl
theorem wk_1075 : (.selects RX1 yX1_howOften yX1_howOften : Jvm.Cond) ∈ WS := WS_t5 57 rfl rfl
theorem vML_howOften {l : Launch} (hl : l.stackTraces = false) (G : GT) : vM l G (ML_howOften (gg G)) := ⟨fun i c j h => lookup_all (l := (ML_howOften (gg G)).fld) (P := fun i e => vFld RL i e.1 e.2) (all_c (vF_RL_13) (all_n)) i (c, j) h, fun i c fs h => lookup_all (l := (ML_howOften (gg G)).new) (P := fun i e => vNew RL i e.1 e.2) (all_n) i (c, fs) h, lookup_all (l := (ML_howOften (gg G)).anew) (P := fun i e => vANew RL i e) (all_n), lookup_all (l := (ML_howOften (gg G)).lng) (P := fun i e => Jvm.Cond.constantLong RL i e ∈ WS) (all_n), lookup_all (l := (ML_howOften (gg G)).thr) (P := fun i e => vThr RL cL_howOften i e) (all_n), fun h => absurd rfl h, lookup_all (l := (ML_howOften (gg G)).cal) (P := fun i e => vCal l G RL i e) (all_c (⟨cX1_howOften, 2, some .int, fun y hy => by subst hy; exact ⟨by decide, ⟨_, wk_1076, okX1_howOften hl, Or.inl ⟨Nat.ne_of_beq_eq_false rfl, rfl⟩⟩, wk_59, ⟨(by decide : yX1_howOften.cls ≠ "java/lang/invoke/MethodHandle"), (by decide : yX1_howOften.cls ≠ "java/lang/invoke/VarHandle")⟩, ⟨(by decide +kernel : (parseMethodDescriptor yX1_howOften.desc).map (fun d => d.parameters.length + 1) = some 2), wk_1073, wk_1074, wk_1075, (RX1, TX1, 7), rfl, rfl⟩⟩⟩) (all_n)), lookup_all (l := (ML_howOften (gg G)).stt) (P := fun i e => vStt G RL i e) (all_n), lookup_all (l := (ML_howOften (gg G)).cst) (P := fun i e => vCst RL i e) (all_n), fun h => absurd rfl h, rfl, all_c (⟨"java/lang/IndexOutOfBoundsException", by decide, rfl, by decide, wk_348⟩) (all_c (⟨"java/lang/IllegalStateException", by decide, rfl, by decide, wk_869⟩) (all_n))⟩
theorem okL_howOften {l : Launch} (hl : l.stackTraces = false) {G : GT} : ∀ (args : List Value) (w : Hw) (S : Ot → Hw → Prop), spOf (ML_howOften (gg G)) args w S → CX l G yL_howOften (.codeWith yL_howOften cL_howOften 4 (some .int) [(0, 10, 13, 19), (0, 10, 16, 74)]) 9 2 12 args w S := CX_spH (M := ML_howOften (gg G)) (y := yL_howOften) hl (by decide) rfl (vML_howOften hl G) (fun h => by cases h)
/-! RangecardLaw.lift(LRangecard;ILRangecardLaw$Out;)I -/
theorem dL_lift_0 : decode cL_lift 0 = .ok (.aload_n 2, 1) := by decide +kernel
theorem dL_lift_1 : decode cL_lift 1 = .ok (.aload_n 0, 1) := by decide +kernel
theorem dL_lift_2 : decode cL_lift 2 = .ok (.iload_n 1, 1) := by decide +kernel
theorem dL_lift_3 : decode cL_lift 3 = .ok (.invokevirtual 155, 3) := by decide +kernel
theorem dL_lift_6 : decode cL_lift 6 = .ok (.i2l, 1) := by decide +kernel
theorem dL_lift_7 : decode cL_lift 7 = .ok (.putfield 13, 3) := by decide +kernel
theorem dL_lift_10 : decode cL_lift 10 = .ok (.goto 9, 3) := by decide +kernel
theorem dL_lift_13 : decode cL_lift 13 = .ok (.astore_n 3, 1) := by decide +kernel
theorem dL_lift_14 : decode cL_lift 14 = .ok (.iconst 1, 1) := by decide +kernel
theorem dL_lift_15 : decode cL_lift 15 = .ok (.ireturn, 1) := by decide +kernel
theorem dL_lift_16 : decode cL_lift 16 = .ok (.astore_n 3, 1) := by decide +kernel
theorem dL_lift_17 : decode cL_lift 17 = .ok (.iconst 2, 1) := by decide +kernel
theorem dL_lift_18 : decode cL_lift 18 = .ok (.ireturn, 1) := by decide +kernel
theorem dL_lift_19 : decode cL_lift 19 = .ok (.iconst 0, 1) := by decide +kernel
theorem dL_lift_20 : decode cL_lift 20 = .ok (.ireturn, 1) := by decide +kernel
def ML_lift (g : RO) : MT := ((RL, cL_lift, 4, 9, 2, 12, false, some .int), [(13, 6, 0)], [], [], [], [], 0, [(155, 2, 2, 5, 8, (fun _ _ => 2), (fun _ _ => 12), yX1_lift, spOf (MX1_lift g))], [], [], 0, [(0, 10, 13, 19), (0, 10, 16, 74)], [(19, "java/lang/IndexOutOfBoundsException"), (74, "java/lang/IllegalStateException")], g)
section
variable {g : RO} {Q : Ot → Hw → Prop} {st : List Value} {w : Hw} {k n p q : Nat} {a b : Int32} {x y : Int64} {u v : Value} {l0 l1 l2 l3 : Option Value}
theorem eL_lift_0 : WP (ML_lift g) Q (0, [l0, l1, some (.ref p), l3], st, w, k, n) = WP (ML_lift g) Q (1, [l0, l1, some (.ref p), l3], .ref p :: st, w, k, n) := Eq.trans (WP_at (M := (ML_lift g)) rfl dL_lift_0 (Or.inr rfl)) rfl
theorem eL_lift_0N : WP (ML_lift g) Q (0, [l0, l1, some .null, l3], st, w, k, n) = WP (ML_lift g) Q (1, [l0, l1, some .null, l3], .null :: st, w, k, n) := Eq.trans (WP_at (M := (ML_lift g)) rfl dL_lift_0 (Or.inr rfl)) rfl
theorem eL_lift_1 : WP (ML_lift g) Q (1, [some (.ref p), l1, l2, l3], st, w, k, n) = WP (ML_lift g) Q (2, [some (.ref p), l1, l2, l3], .ref p :: st, w, k, n) := Eq.trans (WP_at (M := (ML_lift g)) rfl dL_lift_1 (Or.inr rfl)) rfl
theorem eL_lift_1N : WP (ML_lift g) Q (1, [some .null, l1, l2, l3], st, w, k, n) = WP (ML_lift g) Q (2, [some .null, l1, l2, l3], .null :: st, w, k, n) := Eq.trans (WP_at (M := (ML_lift g)) rfl dL_lift_1 (Or.inr rfl)) rfl
theorem eL_lift_2 : WP (ML_lift g) Q (2, [l0, some (.int a), l2, l3], st, w, k, n) = WP (ML_lift g) Q (3, [l0, some (.int a), l2, l3], .int a :: st, w, k, n) := Eq.trans (WP_at (M := (ML_lift g)) rfl dL_lift_2 (Or.inr rfl)) rfl
theorem eL_lift_3 {z0 : Int32} : WP (ML_lift g) Q (3, [l0, l1, l2, l3], .int z0 :: .ref p :: st, w, k, n) = (go (rd g w p) 5 (fun _ => True) ∧ wt st ≤ 8 ∧ k + 2 ≤ 2 ∧ n + 12 ≤ 12 ∧ WP (MX1_lift g) (kx (fun v w' => WP (ML_lift g) Q (6, [l0, l1, l2, l3], v.toList ++ st, w', k + 2, n + 12)) (fun E w' => hgo (ML_lift g) Q (WP (ML_lift g) Q) 3 [l0, l1, l2, l3] E w' (k + 2) (n + 12))) (0, [some (.ref p), some (.int z0), none], [], w, 0, 0)) := csVH (M := (ML_lift g)) (mc := (fun _ _ => 2)) (ms := (fun _ _ => 12)) (As := [.int z0]) (rest := st) (MX1_lift g) rfl dL_lift_3 (by exact fun h => nomatch (show (none : Option Nat) = some 11 from h)) (by exact fun h => nomatch (show (none : Option Nat) = some 15 from h)) rfl rfl (by decide) (Nat.le_of_ble_eq_true rfl) (Nat.le_of_ble_eq_true rfl) rfl
theorem eL_lift_6 : WP (ML_lift g) Q (6, [l0, l1, l2, l3], .int a :: st, w, k, n) = WP (ML_lift g) Q (7, [l0, l1, l2, l3], .long a.toInt64 :: st, w, k, n) := Eq.trans (WP_at (M := (ML_lift g)) rfl dL_lift_6 (Or.inr rfl)) rfl
theorem eL_lift_7 : WP (ML_lift g) Q (7, [l0, l1, l2, l3], v :: .ref p :: st, w, k, n) = go (w p) 6 fun fs => 0 < fs.length ∧ (narrow (.long) v = v ∧ fits (.long) v = true) ∧ WP (ML_lift g) Q (10, [l0, l1, l2, l3], st, upw w p (.inr (6, fs.set 0 v)), k, n) := put_e (q := (RX2, TX2, 2)) rfl dL_lift_7 rfl rfl (tyX2_ok 0 (by decide)) (Or.inl rfl)
theorem eL_lift_10 : WP (ML_lift g) Q (10, [l0, l1, l2, l3], st, w, k, n) = WP (ML_lift g) Q (19, [l0, l1, l2, l3], st, w, k, n) := goto_e rfl dL_lift_10 (by decide)
theorem eL_lift_13 : WP (ML_lift g) Q (13, [l0, l1, l2, l3], .ref p :: st, w, k, n) = WP (ML_lift g) Q (14, [l0, l1, nl l2, some (.ref p)], st, w, k, n) := by rw [WP_at (M := (ML_lift g)) rfl dL_lift_13 (Or.inr rfl)]; exact and_t (Nat.le_of_ble_eq_true rfl)
theorem eL_lift_13N : WP (ML_lift g) Q (13, [l0, l1, l2, l3], .null :: st, w, k, n) = WP (ML_lift g) Q (14, [l0, l1, nl l2, some (.null)], st, w, k, n) := by rw [WP_at (M := (ML_lift g)) rfl dL_lift_13 (Or.inr rfl)]; exact and_t (Nat.le_of_ble_eq_true rfl)
theorem eL_lift_14 : WP (ML_lift g) Q (14, [l0, l1, l2, l3], st, w, k, n) = WP (ML_lift g) Q (15, [l0, l1, l2, l3], .int 1 :: st, w, k, n) := iconst_e rfl dL_lift_14 (by decide)
theorem eL_lift_15 : WP (ML_lift g) Q (15, [l0, l1, l2, l3], [.int a], w, k, n) = (k ≤ 2 ∧ n ≤ 12 ∧ Q (.inl (some (.int a))) w) := iretI_e rfl dL_lift_15 rfl
theorem eL_lift_16 : WP (ML_lift g) Q (16, [l0, l1, l2, l3], .ref p :: st, w, k, n) = WP (ML_lift g) Q (17, [l0, l1, nl l2, some (.ref p)], st, w, k, n) := by rw [WP_at (M := (ML_lift g)) rfl dL_lift_16 (Or.inr rfl)]; exact and_t (Nat.le_of_ble_eq_true rfl)
theorem eL_lift_16N : WP (ML_lift g) Q (16, [l0, l1, l2, l3], .null :: st, w, k, n) = WP (ML_lift g) Q (17, [l0, l1, nl l2, some (.null)], st, w, k, n) := by rw [WP_at (M := (ML_lift g)) rfl dL_lift_16 (Or.inr rfl)]; exact and_t (Nat.le_of_ble_eq_true rfl)
theorem eL_lift_17 : WP (ML_lift g) Q (17, [l0, l1, l2, l3], st, w, k, n) = WP (ML_lift g) Q (18, [l0, l1, l2, l3], .int 2 :: st, w, k, n) := iconst_e rfl dL_lift_17 (by decide)
theorem eL_lift_18 : WP (ML_lift g) Q (18, [l0, l1, l2, l3], [.int a], w, k, n) = (k ≤ 2 ∧ n ≤ 12 ∧ Q (.inl (some (.int a))) w) := iretI_e rfl dL_lift_18 rfl
theorem eL_lift_19 : WP (ML_lift g) Q (19, [l0, l1, l2, l3], st, w, k, n) = WP (ML_lift g) Q (20, [l0, l1, l2, l3], .int 0 :: st, w, k, n) := iconst_e rfl dL_lift_19 (by decide)
theorem eL_lift_20 : WP (ML_lift g) Q (20, [l0, l1, l2, l3], [.int a], w, k, n) = (k ≤ 2 ∧ n ≤ 12 ∧ Q (.inl (some (.int a))) w) := iretI_e rfl dL_lift_20 rfl
end
theorem wk_1083 : (.code yX1_lift cX1_lift 3 (some .int) : Jvm.Cond) ∈ WS := WS_t5 65 rfl rfl
theorem wk_1080 : (.methodLink RL 155 yX1_lift : Jvm.Cond) ∈ WS := WS_t5 62 rfl rfl
theorem wk_1081 : (.instanceMethod yX1_lift : Jvm.Cond) ∈ WS := WS_t5 63 rfl rfl
theorem wk_1082 : (.selects RX1 yX1_lift yX1_lift : Jvm.Cond) ∈ WS := WS_t5 64 rfl rfl
theorem vML_lift {l : Launch} (hl : l.stackTraces = false) (G : GT) : vM l G (ML_lift (gg G)) := ⟨fun i c j h => lookup_all (l := (ML_lift (gg G)).fld) (P := fun i e => vFld RL i e.1 e.2) (all_c (vF_RL_13) (all_n)) i (c, j) h, fun i c fs h => lookup_all (l := (ML_lift (gg G)).new) (P := fun i e => vNew RL i e.1 e.2) (all_n) i (c, fs) h, lookup_all (l := (ML_lift (gg G)).anew) (P := fun i e => vANew RL i e) (all_n), lookup_all (l := (ML_lift (gg G)).lng) (P := fun i e => Jvm.Cond.constantLong RL i e ∈ WS) (all_n), lookup_all (l := (ML_lift (gg G)).thr) (P := fun i e => vThr RL cL_lift i e) (all_n), fun h => absurd rfl h, lookup_all (l := (ML_lift (gg G)).cal) (P := fun i e => vCal l G RL i e) (all_c (⟨cX1_lift, 3, some .int, fun y hy => by subst hy; exact ⟨by decide, ⟨_, wk_1083, okX1_lift hl, Or.inl ⟨Nat.ne_of_beq_eq_false rfl, rfl⟩⟩, wk_59, ⟨(by decide : yX1_lift.cls ≠ "java/lang/invoke/MethodHandle"), (by decide : yX1_lift.cls ≠ "java/lang/invoke/VarHandle")⟩, ⟨(by decide +kernel : (parseMethodDescriptor yX1_lift.desc).map (fun d => d.parameters.length + 1) = some 2), wk_1080, wk_1081, wk_1082, (RX1, TX1, 7), rfl, rfl⟩⟩⟩) (all_n)), lookup_all (l := (ML_lift (gg G)).stt) (P := fun i e => vStt G RL i e) (all_n), lookup_all (l := (ML_lift (gg G)).cst) (P := fun i e => vCst RL i e) (all_n), fun h => absurd rfl h, rfl, all_c (⟨"java/lang/IndexOutOfBoundsException", by decide, rfl, by decide, wk_348⟩) (all_c (⟨"java/lang/IllegalStateException", by decide, rfl, by decide, wk_869⟩) (all_n))⟩
theorem okL_lift {l : Launch} (hl : l.stackTraces = false) {G : GT} : ∀ (args : List Value) (w : Hw) (S : Ot → Hw → Prop), spOf (ML_lift (gg G)) args w S → CX l G yL_lift (.codeWith yL_lift cL_lift 4 (some .int) [(0, 10, 13, 19), (0, 10, 16, 74)]) 9 2 12 args w S := CX_spH (M := ML_lift (gg G)) (y := yL_lift) hl (by decide) rfl (vML_lift hl G) (fun h => by cases h)
end
/-! 69.law07.lean.txt -/
section
/-! RangecardLaw.pick(LRangecard;IILRangecardLaw$Out;)I -/
theorem dL_pick_0 : decode cL_pick 0 = .ok (.aload_n 3, 1) := by decide +kernel
theorem dL_pick_1 : decode cL_pick 1 = .ok (.aload_n 0, 1) := by decide +kernel
theorem dL_pick_2 : decode cL_pick 2 = .ok (.iload_n 1, 1) := by decide +kernel
theorem dL_pick_3 : decode cL_pick 3 = .ok (.iload_n 2, 1) := by decide +kernel
theorem dL_pick_4 : decode cL_pick 4 = .ok (.invokevirtual 158, 3) := by decide +kernel
theorem dL_pick_7 : decode cL_pick 7 = .ok (.i2l, 1) := by decide +kernel
theorem dL_pick_8 : decode cL_pick 8 = .ok (.putfield 13, 3) := by decide +kernel
theorem dL_pick_11 : decode cL_pick 11 = .ok (.goto 7, 3) := by decide +kernel
theorem dL_pick_14 : decode cL_pick 14 = .ok (.astore 4, 2) := by decide +kernel
theorem dL_pick_16 : decode cL_pick 16 = .ok (.iconst 1, 1) := by decide +kernel
theorem dL_pick_17 : decode cL_pick 17 = .ok (.ireturn, 1) := by decide +kernel
theorem dL_pick_18 : decode cL_pick 18 = .ok (.iconst 0, 1) := by decide +kernel
theorem dL_pick_19 : decode cL_pick 19 = .ok (.ireturn, 1) := by decide +kernel
def ML_pick (g : RO) : MT := ((RL, cL_pick, 5, 8, 2, 12, false, some .int), [(13, 6, 0)], [], [], [], [], 0, [(158, 2, 3, 5, 7, (fun _ _ => 2), (fun _ _ => 12), yX1_pick, spOf (MX1_pick g))], [], [], 0, [(0, 11, 14, 19)], [(19, "java/lang/IndexOutOfBoundsException")], g)
section
variable {g : RO} {Q : Ot → Hw → Prop} {st : List Value} {w : Hw} {k n p q : Nat} {a b : Int32} {x y : Int64} {u v : Value} {l0 l1 l2 l3 l4 : Option Value}
theorem eL_pick_0 : WP (ML_pick g) Q (0, [l0, l1, l2, some (.ref p), l4], st, w, k, n) = WP (ML_pick g) Q (1, [l0, l1, l2, some (.ref p), l4], .ref p :: st, w, k, n) := Eq.trans (WP_at (M := (ML_pick g)) rfl dL_pick_0 (Or.inr rfl)) rfl
theorem eL_pick_0N : WP (ML_pick g) Q (0, [l0, l1, l2, some .null, l4], st, w, k, n) = WP (ML_pick g) Q (1, [l0, l1, l2, some .null, l4], .null :: st, w, k, n) := Eq.trans (WP_at (M := (ML_pick g)) rfl dL_pick_0 (Or.inr rfl)) rfl
theorem eL_pick_1 : WP (ML_pick g) Q (1, [some (.ref p), l1, l2, l3, l4], st, w, k, n) = WP (ML_pick g) Q (2, [some (.ref p), l1, l2, l3, l4], .ref p :: st, w, k, n) := Eq.trans (WP_at (M := (ML_pick g)) rfl dL_pick_1 (Or.inr rfl)) rfl
theorem eL_pick_1N : WP (ML_pick g) Q (1, [some .null, l1, l2, l3, l4], st, w, k, n) = WP (ML_pick g) Q (2, [some .null, l1, l2, l3, l4], .null :: st, w, k, n) := Eq.trans (WP_at (M := (ML_pick g)) rfl dL_pick_1 (Or.inr rfl)) rfl
theorem eL_pick_2 : WP (ML_pick g) Q (2, [l0, some (.int a), l2, l3, l4], st, w, k, n) = WP (ML_pick g) Q (3, [l0, some (.int a), l2, l3, l4], .int a :: st, w, k, n) := Eq.trans (WP_at (M := (ML_pick g)) rfl dL_pick_2 (Or.inr rfl)) rfl
theorem eL_pick_3 : WP (ML_pick g) Q (3, [l0, l1, some (.int a), l3, l4], st, w, k, n) = WP (ML_pick g) Q (4, [l0, l1, some (.int a), l3, l4], .int a :: st, w, k, n) := Eq.trans (WP_at (M := (ML_pick g)) rfl dL_pick_3 (Or.inr rfl)) rfl
theorem eL_pick_4 {z0 : Int32} {z1 : Int32} : WP (ML_pick g) Q (4, [l0, l1, l2, l3, l4], .int z1 :: .int z0 :: .ref p :: st, w, k, n) = (go (rd g w p) 5 (fun _ => True) ∧ wt st ≤ 8 ∧ k + 2 ≤ 2 ∧ n + 12 ≤ 12 ∧ WP (MX1_pick g) (kx (fun v w' => WP (ML_pick g) Q (7, [l0, l1, l2, l3, l4], v.toList ++ st, w', k + 2, n + 12)) (fun E w' => hgo (ML_pick g) Q (WP (ML_pick g) Q) 4 [l0, l1, l2, l3, l4] E w' (k + 2) (n + 12))) (0, [some (.ref p), some (.int z0), some (.int z1), none], [], w, 0, 0)) := csVH (M := (ML_pick g)) (mc := (fun _ _ => 2)) (ms := (fun _ _ => 12)) (As := [.int z0, .int z1]) (rest := st) (MX1_pick g) rfl dL_pick_4 (by exact fun h => nomatch (show (none : Option Nat) = some 11 from h)) (by exact fun h => nomatch (show (none : Option Nat) = some 15 from h)) rfl rfl (by decide) (Nat.le_of_ble_eq_true rfl) (Nat.le_of_ble_eq_true rfl) rfl
theorem eL_pick_7 : WP (ML_pick g) Q (7, [l0, l1, l2, l3, l4], .int a :: st, w, k, n) = WP (ML_pick g) Q (8, [l0, l1, l2, l3, l4], .long a.toInt64 :: st, w, k, n) := Eq.trans (WP_at (M := (ML_pick g)) rfl dL_pick_7 (Or.inr rfl)) rfl
theorem eL_pick_8 : WP (ML_pick g) Q (8, [l0, l1, l2, l3, l4], v :: .ref p :: st, w, k, n) = go (w p) 6 fun fs => 0 < fs.length ∧ (narrow (.long) v = v ∧ fits (.long) v = true) ∧ WP (ML_pick g) Q (11, [l0, l1, l2, l3, l4], st, upw w p (.inr (6, fs.set 0 v)), k, n) := put_e (q := (RX2, TX2, 2)) rfl dL_pick_8 rfl rfl (tyX2_ok 0 (by decide)) (Or.inl rfl)
theorem eL_pick_11 : WP (ML_pick g) Q (11, [l0, l1, l2, l3, l4], st, w, k, n) = WP (ML_pick g) Q (18, [l0, l1, l2, l3, l4], st, w, k, n) := goto_e rfl dL_pick_11 (by decide)
theorem eL_pick_14 : WP (ML_pick g) Q (14, [l0, l1, l2, l3, l4], .ref p :: st, w, k, n) = WP (ML_pick g) Q (16, [l0, l1, l2, nl l3, some (.ref p)], st, w, k, n) := by rw [WP_at (M := (ML_pick g)) rfl dL_pick_14 (Or.inr rfl)]; exact and_t (Nat.le_of_ble_eq_true rfl)
theorem eL_pick_14N : WP (ML_pick g) Q (14, [l0, l1, l2, l3, l4], .null :: st, w, k, n) = WP (ML_pick g) Q (16, [l0, l1, l2, nl l3, some (.null)], st, w, k, n) := by rw [WP_at (M := (ML_pick g)) rfl dL_pick_14 (Or.inr rfl)]; exact and_t (Nat.le_of_ble_eq_true rfl)
theorem eL_pick_16 : WP (ML_pick g) Q (16, [l0, l1, l2, l3, l4], st, w, k, n) = WP (ML_pick g) Q (17, [l0, l1, l2, l3, l4], .int 1 :: st, w, k, n) := iconst_e rfl dL_pick_16 (by decide)
theorem eL_pick_17 : WP (ML_pick g) Q (17, [l0, l1, l2, l3, l4], [.int a], w, k, n) = (k ≤ 2 ∧ n ≤ 12 ∧ Q (.inl (some (.int a))) w) := iretI_e rfl dL_pick_17 rfl
theorem eL_pick_18 : WP (ML_pick g) Q (18, [l0, l1, l2, l3, l4], st, w, k, n) = WP (ML_pick g) Q (19, [l0, l1, l2, l3, l4], .int 0 :: st, w, k, n) := iconst_e rfl dL_pick_18 (by decide)
theorem eL_pick_19 : WP (ML_pick g) Q (19, [l0, l1, l2, l3, l4], [.int a], w, k, n) = (k ≤ 2 ∧ n ≤ 12 ∧ Q (.inl (some (.int a))) w) := iretI_e rfl dL_pick_19 rfl
end
theorem wk_1094 : (.code yX1_pick cX1_pick 4 (some .int) : Jvm.Cond) ∈ WS := WS_t5 76 rfl rfl
theorem wk_1091 : (.methodLink RL 158 yX1_pick : Jvm.Cond) ∈ WS := WS_t5 73 rfl rfl
theorem wk_1092 : (.instanceMethod yX1_pick : Jvm.Cond) ∈ WS := WS_t5 74 rfl rfl
theorem wk_1093 : (.selects RX1 yX1_pick yX1_pick : Jvm.Cond) ∈ WS := WS_t5 75 rfl rfl
theorem vML_pick {l : Launch} (hl : l.stackTraces = false) (G : GT) : vM l G (ML_pick (gg G)) := ⟨fun i c j h => lookup_all (l := (ML_pick (gg G)).fld) (P := fun i e => vFld RL i e.1 e.2) (all_c (vF_RL_13) (all_n)) i (c, j) h, fun i c fs h => lookup_all (l := (ML_pick (gg G)).new) (P := fun i e => vNew RL i e.1 e.2) (all_n) i (c, fs) h, lookup_all (l := (ML_pick (gg G)).anew) (P := fun i e => vANew RL i e) (all_n), lookup_all (l := (ML_pick (gg G)).lng) (P := fun i e => Jvm.Cond.constantLong RL i e ∈ WS) (all_n), lookup_all (l := (ML_pick (gg G)).thr) (P := fun i e => vThr RL cL_pick i e) (all_n), fun h => absurd rfl h, lookup_all (l := (ML_pick (gg G)).cal) (P := fun i e => vCal l G RL i e) (all_c (⟨cX1_pick, 4, some .int, fun y hy => by subst hy; exact ⟨by decide, ⟨_, wk_1094, okX1_pick hl, Or.inl ⟨Nat.ne_of_beq_eq_false rfl, rfl⟩⟩, wk_59, ⟨(by decide : yX1_pick.cls ≠ "java/lang/invoke/MethodHandle"), (by decide : yX1_pick.cls ≠ "java/lang/invoke/VarHandle")⟩, ⟨(by decide +kernel : (parseMethodDescriptor yX1_pick.desc).map (fun d => d.parameters.length + 1) = some 3), wk_1091, wk_1092, wk_1093, (RX1, TX1, 7), rfl, rfl⟩⟩⟩) (all_n)), lookup_all (l := (ML_pick (gg G)).stt) (P := fun i e => vStt G RL i e) (all_n), lookup_all (l := (ML_pick (gg G)).cst) (P := fun i e => vCst RL i e) (all_n), fun h => absurd rfl h, rfl, all_c (⟨"java/lang/IndexOutOfBoundsException", by decide, rfl, by decide, wk_348⟩) (all_n)⟩
theorem okL_pick {l : Launch} (hl : l.stackTraces = false) {G : GT} : ∀ (args : List Value) (w : Hw) (S : Ot → Hw → Prop), spOf (ML_pick (gg G)) args w S → CX l G yL_pick (.codeWith yL_pick cL_pick 5 (some .int) [(0, 11, 14, 19)]) 8 2 12 args w S := CX_spH (M := ML_pick (gg G)) (y := yL_pick) hl (by decide) rfl (vML_pick hl G) (fun h => by cases h)
/-! RangecardLaw.pile(LRangecard;IILRangecardLaw$Out;)I -/
theorem dL_pile_0 : decode cL_pile 0 = .ok (.aload_n 3, 1) := by decide +kernel
theorem dL_pile_1 : decode cL_pile 1 = .ok (.aload_n 0, 1) := by decide +kernel
theorem dL_pile_2 : decode cL_pile 2 = .ok (.iload_n 1, 1) := by decide +kernel
theorem dL_pile_3 : decode cL_pile 3 = .ok (.iload_n 2, 1) := by decide +kernel
theorem dL_pile_4 : decode cL_pile 4 = .ok (.invokevirtual 161, 3) := by decide +kernel
theorem dL_pile_7 : decode cL_pile 7 = .ok (.i2l, 1) := by decide +kernel
theorem dL_pile_8 : decode cL_pile 8 = .ok (.putfield 13, 3) := by decide +kernel
theorem dL_pile_11 : decode cL_pile 11 = .ok (.goto 11, 3) := by decide +kernel
theorem dL_pile_14 : decode cL_pile 14 = .ok (.astore 4, 2) := by decide +kernel
theorem dL_pile_16 : decode cL_pile 16 = .ok (.iconst 1, 1) := by decide +kernel
theorem dL_pile_17 : decode cL_pile 17 = .ok (.ireturn, 1) := by decide +kernel
theorem dL_pile_18 : decode cL_pile 18 = .ok (.astore 4, 2) := by decide +kernel
theorem dL_pile_20 : decode cL_pile 20 = .ok (.iconst 2, 1) := by decide +kernel
theorem dL_pile_21 : decode cL_pile 21 = .ok (.ireturn, 1) := by decide +kernel
theorem dL_pile_22 : decode cL_pile 22 = .ok (.iconst 0, 1) := by decide +kernel
theorem dL_pile_23 : decode cL_pile 23 = .ok (.ireturn, 1) := by decide +kernel
def ML_pile (g : RO) : MT := ((RL, cL_pile, 5, 8, 2, 12, false, some .int), [(13, 6, 0)], [], [], [], [], 0, [(161, 2, 3, 5, 7, (fun _ _ => 2), (fun _ _ => 12), yX1_pile, spOf (MX1_pile g))], [], [], 0, [(0, 11, 14, 19), (0, 11, 18, 28)], [(19, "java/lang/IndexOutOfBoundsException"), (28, "java/lang/IllegalArgumentException")], g)
section
variable {g : RO} {Q : Ot → Hw → Prop} {st : List Value} {w : Hw} {k n p q : Nat} {a b : Int32} {x y : Int64} {u v : Value} {l0 l1 l2 l3 l4 : Option Value}
theorem eL_pile_0 : WP (ML_pile g) Q (0, [l0, l1, l2, some (.ref p), l4], st, w, k, n) = WP (ML_pile g) Q (1, [l0, l1, l2, some (.ref p), l4], .ref p :: st, w, k, n) := Eq.trans (WP_at (M := (ML_pile g)) rfl dL_pile_0 (Or.inr rfl)) rfl
theorem eL_pile_0N : WP (ML_pile g) Q (0, [l0, l1, l2, some .null, l4], st, w, k, n) = WP (ML_pile g) Q (1, [l0, l1, l2, some .null, l4], .null :: st, w, k, n) := Eq.trans (WP_at (M := (ML_pile g)) rfl dL_pile_0 (Or.inr rfl)) rfl
theorem eL_pile_1 : WP (ML_pile g) Q (1, [some (.ref p), l1, l2, l3, l4], st, w, k, n) = WP (ML_pile g) Q (2, [some (.ref p), l1, l2, l3, l4], .ref p :: st, w, k, n) := Eq.trans (WP_at (M := (ML_pile g)) rfl dL_pile_1 (Or.inr rfl)) rfl
theorem eL_pile_1N : WP (ML_pile g) Q (1, [some .null, l1, l2, l3, l4], st, w, k, n) = WP (ML_pile g) Q (2, [some .null, l1, l2, l3, l4], .null :: st, w, k, n) := Eq.trans (WP_at (M := (ML_pile g)) rfl dL_pile_1 (Or.inr rfl)) rfl
theorem eL_pile_2 : WP (ML_pile g) Q (2, [l0, some (.int a), l2, l3, l4], st, w, k, n) = WP (ML_pile g) Q (3, [l0, some (.int a), l2, l3, l4], .int a :: st, w, k, n) := Eq.trans (WP_at (M := (ML_pile g)) rfl dL_pile_2 (Or.inr rfl)) rfl
theorem eL_pile_3 : WP (ML_pile g) Q (3, [l0, l1, some (.int a), l3, l4], st, w, k, n) = WP (ML_pile g) Q (4, [l0, l1, some (.int a), l3, l4], .int a :: st, w, k, n) := Eq.trans (WP_at (M := (ML_pile g)) rfl dL_pile_3 (Or.inr rfl)) rfl
theorem eL_pile_4 {z0 : Int32} {z1 : Int32} : WP (ML_pile g) Q (4, [l0, l1, l2, l3, l4], .int z1 :: .int z0 :: .ref p :: st, w, k, n) = (go (rd g w p) 5 (fun _ => True) ∧ wt st ≤ 8 ∧ k + 2 ≤ 2 ∧ n + 12 ≤ 12 ∧ WP (MX1_pile g) (kx (fun v w' => WP (ML_pile g) Q (7, [l0, l1, l2, l3, l4], v.toList ++ st, w', k + 2, n + 12)) (fun E w' => hgo (ML_pile g) Q (WP (ML_pile g) Q) 4 [l0, l1, l2, l3, l4] E w' (k + 2) (n + 12))) (0, [some (.ref p), some (.int z0), some (.int z1)], [], w, 0, 0)) := csVH (M := (ML_pile g)) (mc := (fun _ _ => 2)) (ms := (fun _ _ => 12)) (As := [.int z0, .int z1]) (rest := st) (MX1_pile g) rfl dL_pile_4 (by exact fun h => nomatch (show (none : Option Nat) = some 11 from h)) (by exact fun h => nomatch (show (none : Option Nat) = some 15 from h)) rfl rfl (by decide) (Nat.le_of_ble_eq_true rfl) (Nat.le_of_ble_eq_true rfl) rfl
theorem eL_pile_7 : WP (ML_pile g) Q (7, [l0, l1, l2, l3, l4], .int a :: st, w, k, n) = WP (ML_pile g) Q (8, [l0, l1, l2, l3, l4], .long a.toInt64 :: st, w, k, n) := Eq.trans (WP_at (M := (ML_pile g)) rfl dL_pile_7 (Or.inr rfl)) rfl
theorem eL_pile_8 : WP (ML_pile g) Q (8, [l0, l1, l2, l3, l4], v :: .ref p :: st, w, k, n) = go (w p) 6 fun fs => 0 < fs.length ∧ (narrow (.long) v = v ∧ fits (.long) v = true) ∧ WP (ML_pile g) Q (11, [l0, l1, l2, l3, l4], st, upw w p (.inr (6, fs.set 0 v)), k, n) := put_e (q := (RX2, TX2, 2)) rfl dL_pile_8 rfl rfl (tyX2_ok 0 (by decide)) (Or.inl rfl)
theorem eL_pile_11 : WP (ML_pile g) Q (11, [l0, l1, l2, l3, l4], st, w, k, n) = WP (ML_pile g) Q (22, [l0, l1, l2, l3, l4], st, w, k, n) := goto_e rfl dL_pile_11 (by decide)
theorem eL_pile_14 : WP (ML_pile g) Q (14, [l0, l1, l2, l3, l4], .ref p :: st, w, k, n) = WP (ML_pile g) Q (16, [l0, l1, l2, nl l3, some (.ref p)], st, w, k, n) := by rw [WP_at (M := (ML_pile g)) rfl dL_pile_14 (Or.inr rfl)]; exact and_t (Nat.le_of_ble_eq_true rfl)
theorem eL_pile_14N : WP (ML_pile g) Q (14, [l0, l1, l2, l3, l4], .null :: st, w, k, n) = WP (ML_pile g) Q (16, [l0, l1, l2, nl l3, some (.null)], st, w, k, n) := by rw [WP_at (M := (ML_pile g)) rfl dL_pile_14 (Or.inr rfl)]; exact and_t (Nat.le_of_ble_eq_true rfl)
theorem eL_pile_16 : WP (ML_pile g) Q (16, [l0, l1, l2, l3, l4], st, w, k, n) = WP (ML_pile g) Q (17, [l0, l1, l2, l3, l4], .int 1 :: st, w, k, n) := iconst_e rfl dL_pile_16 (by decide)
theorem eL_pile_17 : WP (ML_pile g) Q (17, [l0, l1, l2, l3, l4], [.int a], w, k, n) = (k ≤ 2 ∧ n ≤ 12 ∧ Q (.inl (some (.int a))) w) := iretI_e rfl dL_pile_17 rfl
theorem eL_pile_18 : WP (ML_pile g) Q (18, [l0, l1, l2, l3, l4], .ref p :: st, w, k, n) = WP (ML_pile g) Q (20, [l0, l1, l2, nl l3, some (.ref p)], st, w, k, n) := by rw [WP_at (M := (ML_pile g)) rfl dL_pile_18 (Or.inr rfl)]; exact and_t (Nat.le_of_ble_eq_true rfl)
theorem eL_pile_18N : WP (ML_pile g) Q (18, [l0, l1, l2, l3, l4], .null :: st, w, k, n) = WP (ML_pile g) Q (20, [l0, l1, l2, nl l3, some (.null)], st, w, k, n) := by rw [WP_at (M := (ML_pile g)) rfl dL_pile_18 (Or.inr rfl)]; exact and_t (Nat.le_of_ble_eq_true rfl)
theorem eL_pile_20 : WP (ML_pile g) Q (20, [l0, l1, l2, l3, l4], st, w, k, n) = WP (ML_pile g) Q (21, [l0, l1, l2, l3, l4], .int 2 :: st, w, k, n) := iconst_e rfl dL_pile_20 (by decide)
theorem eL_pile_21 : WP (ML_pile g) Q (21, [l0, l1, l2, l3, l4], [.int a], w, k, n) = (k ≤ 2 ∧ n ≤ 12 ∧ Q (.inl (some (.int a))) w) := iretI_e rfl dL_pile_21 rfl
theorem eL_pile_22 : WP (ML_pile g) Q (22, [l0, l1, l2, l3, l4], st, w, k, n) = WP (ML_pile g) Q (23, [l0, l1, l2, l3, l4], .int 0 :: st, w, k, n) := iconst_e rfl dL_pile_22 (by decide)
theorem eL_pile_23 : WP (ML_pile g) Q (23, [l0, l1, l2, l3, l4], [.int a], w, k, n) = (k ≤ 2 ∧ n ≤ 12 ∧ Q (.inl (some (.int a))) w) := iretI_e rfl dL_pile_23 rfl
end
theorem wk_1106 : (.code yX1_pile cX1_pile 3 (some .int) : Jvm.Cond) ∈ WS := WS_t5 88 rfl rfl
theorem wk_1103 : (.methodLink RL 161 yX1_pile : Jvm.Cond) ∈ WS := WS_t5 85 rfl rfl
theorem wk_1104 : (.instanceMethod yX1_pile : Jvm.Cond) ∈ WS := WS_t5 86 rfl rfl
theorem wk_1105 : (.selects RX1 yX1_pile yX1_pile : Jvm.Cond) ∈ WS := WS_t5 87 rfl rfl
theorem vML_pile {l : Launch} (hl : l.stackTraces = false) (G : GT) : vM l G (ML_pile (gg G)) := ⟨fun i c j h => lookup_all (l := (ML_pile (gg G)).fld) (P := fun i e => vFld RL i e.1 e.2) (all_c (vF_RL_13) (all_n)) i (c, j) h, fun i c fs h => lookup_all (l := (ML_pile (gg G)).new) (P := fun i e => vNew RL i e.1 e.2) (all_n) i (c, fs) h, lookup_all (l := (ML_pile (gg G)).anew) (P := fun i e => vANew RL i e) (all_n), lookup_all (l := (ML_pile (gg G)).lng) (P := fun i e => Jvm.Cond.constantLong RL i e ∈ WS) (all_n), lookup_all (l := (ML_pile (gg G)).thr) (P := fun i e => vThr RL cL_pile i e) (all_n), fun h => absurd rfl h, lookup_all (l := (ML_pile (gg G)).cal) (P := fun i e => vCal l G RL i e) (all_c (⟨cX1_pile, 3, some .int, fun y hy => by subst hy; exact ⟨by decide, ⟨_, wk_1106, okX1_pile hl, Or.inl ⟨Nat.ne_of_beq_eq_false rfl, rfl⟩⟩, wk_59, ⟨(by decide : yX1_pile.cls ≠ "java/lang/invoke/MethodHandle"), (by decide : yX1_pile.cls ≠ "java/lang/invoke/VarHandle")⟩, ⟨(by decide +kernel : (parseMethodDescriptor yX1_pile.desc).map (fun d => d.parameters.length + 1) = some 3), wk_1103, wk_1104, wk_1105, (RX1, TX1, 7), rfl, rfl⟩⟩⟩) (all_n)), lookup_all (l := (ML_pile (gg G)).stt) (P := fun i e => vStt G RL i e) (all_n), lookup_all (l := (ML_pile (gg G)).cst) (P := fun i e => vCst RL i e) (all_n), fun h => absurd rfl h, rfl, all_c (⟨"java/lang/IndexOutOfBoundsException", by decide, rfl, by decide, wk_348⟩) (all_c (⟨"java/lang/IllegalArgumentException", by decide, rfl, by decide, wk_435⟩) (all_n))⟩
theorem okL_pile {l : Launch} (hl : l.stackTraces = false) {G : GT} : ∀ (args : List Value) (w : Hw) (S : Ot → Hw → Prop), spOf (ML_pile (gg G)) args w S → CX l G yL_pile (.codeWith yL_pile cL_pile 5 (some .int) [(0, 11, 14, 19), (0, 11, 18, 28)]) 8 2 12 args w S := CX_spH (M := ML_pile (gg G)) (y := yL_pile) hl (by decide) rfl (vML_pile hl G) (fun h => by cases h)
/-! RangecardLaw.house(LRangecard;ILRangecardLaw$Out;)I -/
theorem dL_house_0 : decode cL_house 0 = .ok (.aload_n 2, 1) := by decide +kernel
theorem dL_house_1 : decode cL_house 1 = .ok (.aload_n 0, 1) := by decide +kernel
theorem dL_house_2 : decode cL_house 2 = .ok (.iload_n 1, 1) := by decide +kernel
theorem dL_house_3 : decode cL_house 3 = .ok (.invokevirtual 164, 3) := by decide +kernel
theorem dL_house_6 : decode cL_house 6 = .ok (.i2l, 1) := by decide +kernel
theorem dL_house_7 : decode cL_house 7 = .ok (.putfield 13, 3) := by decide +kernel
theorem dL_house_10 : decode cL_house 10 = .ok (.goto 6, 3) := by decide +kernel
theorem dL_house_13 : decode cL_house 13 = .ok (.astore_n 3, 1) := by decide +kernel
theorem dL_house_14 : decode cL_house 14 = .ok (.iconst 1, 1) := by decide +kernel
theorem dL_house_15 : decode cL_house 15 = .ok (.ireturn, 1) := by decide +kernel
theorem dL_house_16 : decode cL_house 16 = .ok (.iconst 0, 1) := by decide +kernel
theorem dL_house_17 : decode cL_house 17 = .ok (.ireturn, 1) := by decide +kernel
def ML_house (g : RO) : MT := ((RL, cL_house, 4, 8, 1, 6, false, some .int), [(13, 6, 0)], [], [], [], [], 0, [(164, 2, 2, 5, 7, (fun _ _ => 1), (fun _ _ => 6), yX1_house, spOf (MX1_house g))], [], [], 0, [(0, 10, 13, 28)], [(28, "java/lang/IllegalArgumentException")], g)
section
variable {g : RO} {Q : Ot → Hw → Prop} {st : List Value} {w : Hw} {k n p q : Nat} {a b : Int32} {x y : Int64} {u v : Value} {l0 l1 l2 l3 : Option Value}
theorem eL_house_0 : WP (ML_house g) Q (0, [l0, l1, some (.ref p), l3], st, w, k, n) = WP (ML_house g) Q (1, [l0, l1, some (.ref p), l3], .ref p :: st, w, k, n) := Eq.trans (WP_at (M := (ML_house g)) rfl dL_house_0 (Or.inr rfl)) rfl
theorem eL_house_0N : WP (ML_house g) Q (0, [l0, l1, some .null, l3], st, w, k, n) = WP (ML_house g) Q (1, [l0, l1, some .null, l3], .null :: st, w, k, n) := Eq.trans (WP_at (M := (ML_house g)) rfl dL_house_0 (Or.inr rfl)) rfl
theorem eL_house_1 : WP (ML_house g) Q (1, [some (.ref p), l1, l2, l3], st, w, k, n) = WP (ML_house g) Q (2, [some (.ref p), l1, l2, l3], .ref p :: st, w, k, n) := Eq.trans (WP_at (M := (ML_house g)) rfl dL_house_1 (Or.inr rfl)) rfl
theorem eL_house_1N : WP (ML_house g) Q (1, [some .null, l1, l2, l3], st, w, k, n) = WP (ML_house g) Q (2, [some .null, l1, l2, l3], .null :: st, w, k, n) := Eq.trans (WP_at (M := (ML_house g)) rfl dL_house_1 (Or.inr rfl)) rfl
theorem eL_house_2 : WP (ML_house g) Q (2, [l0, some (.int a), l2, l3], st, w, k, n) = WP (ML_house g) Q (3, [l0, some (.int a), l2, l3], .int a :: st, w, k, n) := Eq.trans (WP_at (M := (ML_house g)) rfl dL_house_2 (Or.inr rfl)) rfl
theorem eL_house_3 {z0 : Int32} : WP (ML_house g) Q (3, [l0, l1, l2, l3], .int z0 :: .ref p :: st, w, k, n) = (go (rd g w p) 5 (fun _ => True) ∧ wt st ≤ 8 ∧ k + 1 ≤ 1 ∧ n + 6 ≤ 6 ∧ WP (MX1_house g) (kx (fun v w' => WP (ML_house g) Q (6, [l0, l1, l2, l3], v.toList ++ st, w', k + 1, n + 6)) (fun E w' => hgo (ML_house g) Q (WP (ML_house g) Q) 3 [l0, l1, l2, l3] E w' (k + 1) (n + 6))) (0, [some (.ref p), some (.int z0)], [], w, 0, 0)) := csVH (M := (ML_house g)) (mc := (fun _ _ => 1)) (ms := (fun _ _ => 6)) (As := [.int z0]) (rest := st) (MX1_house g) rfl dL_house_3 (by exact fun h => nomatch (show (none : Option Nat) = some 11 from h)) (by exact fun h => nomatch (show (none : Option Nat) = some 15 from h)) rfl rfl (by decide) (Nat.le_of_ble_eq_true rfl) (Nat.le_of_ble_eq_true rfl) rfl
theorem eL_house_6 : WP (ML_house g) Q (6, [l0, l1, l2, l3], .int a :: st, w, k, n) = WP (ML_house g) Q (7, [l0, l1, l2, l3], .long a.toInt64 :: st, w, k, n) := Eq.trans (WP_at (M := (ML_house g)) rfl dL_house_6 (Or.inr rfl)) rfl
theorem eL_house_7 : WP (ML_house g) Q (7, [l0, l1, l2, l3], v :: .ref p :: st, w, k, n) = go (w p) 6 fun fs => 0 < fs.length ∧ (narrow (.long) v = v ∧ fits (.long) v = true) ∧ WP (ML_house g) Q (10, [l0, l1, l2, l3], st, upw w p (.inr (6, fs.set 0 v)), k, n) := put_e (q := (RX2, TX2, 2)) rfl dL_house_7 rfl rfl (tyX2_ok 0 (by decide)) (Or.inl rfl)
theorem eL_house_10 : WP (ML_house g) Q (10, [l0, l1, l2, l3], st, w, k, n) = WP (ML_house g) Q (16, [l0, l1, l2, l3], st, w, k, n) := goto_e rfl dL_house_10 (by decide)
theorem eL_house_13 : WP (ML_house g) Q (13, [l0, l1, l2, l3], .ref p :: st, w, k, n) = WP (ML_house g) Q (14, [l0, l1, nl l2, some (.ref p)], st, w, k, n) := by rw [WP_at (M := (ML_house g)) rfl dL_house_13 (Or.inr rfl)]; exact and_t (Nat.le_of_ble_eq_true rfl)
theorem eL_house_13N : WP (ML_house g) Q (13, [l0, l1, l2, l3], .null :: st, w, k, n) = WP (ML_house g) Q (14, [l0, l1, nl l2, some (.null)], st, w, k, n) := by rw [WP_at (M := (ML_house g)) rfl dL_house_13 (Or.inr rfl)]; exact and_t (Nat.le_of_ble_eq_true rfl)
theorem eL_house_14 : WP (ML_house g) Q (14, [l0, l1, l2, l3], st, w, k, n) = WP (ML_house g) Q (15, [l0, l1, l2, l3], .int 1 :: st, w, k, n) := iconst_e rfl dL_house_14 (by decide)
theorem eL_house_15 : WP (ML_house g) Q (15, [l0, l1, l2, l3], [.int a], w, k, n) = (k ≤ 1 ∧ n ≤ 6 ∧ Q (.inl (some (.int a))) w) := iretI_e rfl dL_house_15 rfl
theorem eL_house_16 : WP (ML_house g) Q (16, [l0, l1, l2, l3], st, w, k, n) = WP (ML_house g) Q (17, [l0, l1, l2, l3], .int 0 :: st, w, k, n) := iconst_e rfl dL_house_16 (by decide)
theorem eL_house_17 : WP (ML_house g) Q (17, [l0, l1, l2, l3], [.int a], w, k, n) = (k ≤ 1 ∧ n ≤ 6 ∧ Q (.inl (some (.int a))) w) := iretI_e rfl dL_house_17 rfl
end
theorem wk_1113 : (.code yX1_house cX1_house 2 (some .int) : Jvm.Cond) ∈ WS := WS_t5 95 rfl rfl
theorem wk_1110 : (.methodLink RL 164 yX1_house : Jvm.Cond) ∈ WS := WS_t5 92 rfl rfl
theorem wk_1111 : (.instanceMethod yX1_house : Jvm.Cond) ∈ WS := WS_t5 93 rfl rfl
theorem wk_1112 : (.selects RX1 yX1_house yX1_house : Jvm.Cond) ∈ WS := WS_t5 94 rfl rfl
theorem vML_house {l : Launch} (hl : l.stackTraces = false) (G : GT) : vM l G (ML_house (gg G)) := ⟨fun i c j h => lookup_all (l := (ML_house (gg G)).fld) (P := fun i e => vFld RL i e.1 e.2) (all_c (vF_RL_13) (all_n)) i (c, j) h, fun i c fs h => lookup_all (l := (ML_house (gg G)).new) (P := fun i e => vNew RL i e.1 e.2) (all_n) i (c, fs) h, lookup_all (l := (ML_house (gg G)).anew) (P := fun i e => vANew RL i e) (all_n), lookup_all (l := (ML_house (gg G)).lng) (P := fun i e => Jvm.Cond.constantLong RL i e ∈ WS) (all_n), lookup_all (l := (ML_house (gg G)).thr) (P := fun i e => vThr RL cL_house i e) (all_n), fun h => absurd rfl h, lookup_all (l := (ML_house (gg G)).cal) (P := fun i e => vCal l G RL i e) (all_c (⟨cX1_house, 2, some .int, fun y hy => by subst hy; exact ⟨by decide, ⟨_, wk_1113, okX1_house hl, Or.inl ⟨Nat.ne_of_beq_eq_false rfl, rfl⟩⟩, wk_59, ⟨(by decide : yX1_house.cls ≠ "java/lang/invoke/MethodHandle"), (by decide : yX1_house.cls ≠ "java/lang/invoke/VarHandle")⟩, ⟨(by decide +kernel : (parseMethodDescriptor yX1_house.desc).map (fun d => d.parameters.length + 1) = some 2), wk_1110, wk_1111, wk_1112, (RX1, TX1, 7), rfl, rfl⟩⟩⟩) (all_n)), lookup_all (l := (ML_house (gg G)).stt) (P := fun i e => vStt G RL i e) (all_n), lookup_all (l := (ML_house (gg G)).cst) (P := fun i e => vCst RL i e) (all_n), fun h => absurd rfl h, rfl, all_c (⟨"java/lang/IllegalArgumentException", by decide, rfl, by decide, wk_435⟩) (all_n)⟩
theorem okL_house {l : Launch} (hl : l.stackTraces = false) {G : GT} : ∀ (args : List Value) (w : Hw) (S : Ot → Hw → Prop), spOf (ML_house (gg G)) args w S → CX l G yL_house (.codeWith yL_house cL_house 4 (some .int) [(0, 10, 13, 28)]) 8 1 6 args w S := CX_spH (M := ML_house (gg G)) (y := yL_house) hl (by decide) rfl (vML_house hl G) (fun h => by cases h)
end
/-! 69.lawd0.lean.txt -/
section
/-! RangecardLaw.law([I)Z -/
section
/-! bytes of a code, one by one -/
def bA (c : ByteArray) (p b : Nat) : Prop := ∃ h : p < c.size, (c[p]'h).toNat = b
theorem u1_bA {c : ByteArray} {p b : Nat} (h : bA c p b) : (Reader.u1 : Reader DecodeError Nat) c p = .ok (b, p + 1) := by
  obtain ⟨h, rfl⟩ := h
  show (if h : p < c.size then (do set (p + 1); pure (c[p]'h).toNat : Reader DecodeError Nat) else throw (HasTruncated.truncated p)) c p = _
  rw [dif_pos h]
  rfl
theorem u1_then {α : Type} {c : ByteArray} {p b : Nat} (h : bA c p b) (f : Nat → Reader DecodeError α) : (Reader.u1 >>= f) c p = f b c (p + 1) := by
  show Except.bind ((Reader.u1 : Reader DecodeError Nat) c p) _ = _
  rw [u1_bA h]
  rfl
theorem u2_bA {c : ByteArray} {p hi lo : Nat} (h1 : bA c p hi) (h2 : bA c (p + 1) lo) : (Reader.u2 : Reader DecodeError Nat) c p = .ok (hi * 256 + lo, p + 2) := by
  show ((Reader.u1 >>= fun a => Reader.u1 >>= fun b => pure (a * 256 + b)) : Reader DecodeError Nat) c p = _
  rw [u1_then h1, u1_then h2]
  rfl
theorem u1_pure {g : Nat → Instr} {c : ByteArray} {p b : Nat} (h : bA c p b) : ((Reader.u1 >>= fun x => pure (g x)) : Reader DecodeError Instr) c p = .ok (g b, p + 1) := by
  rw [u1_then h]
  rfl
theorem u2_pure {g : Nat → Instr} {c : ByteArray} {p hi lo o : Nat} (h1 : bA c p hi) (h2 : bA c (p + 1) lo) (ho : hi * 256 + lo = o) : ((Reader.u2 >>= fun x => pure (g x)) : Reader DecodeError Instr) c p = .ok (g o, p + 2) := by
  subst ho
  show Except.bind ((Reader.u2 : Reader DecodeError Nat) c p) _ = _
  rw [u2_bA h1 h2]
  rfl
theorem s2_pure {g : Int → Instr} {c : ByteArray} {p hi lo : Nat} {o : Int} (h1 : bA c p hi) (h2 : bA c (p + 1) lo) (ho : Reader.signed 16 (hi * 256 + lo) = o) : ((Reader.s2 >>= fun x => pure (g x)) : Reader DecodeError Instr) c p = .ok (g o, p + 2) := by
  subst ho
  show Except.bind (Except.bind ((Reader.u2 : Reader DecodeError Nat) c p) _) _ = _
  rw [u2_bA h1 h2]
  rfl
theorem dec_of {c : ByteArray} {pc b n : Nat} {i : Instr} {f : Nat → Reader DecodeError Instr} (hb : bA c pc b) (hf : Decoder.instr pc = (Reader.u1 >>= f)) (hk : f b c (pc + 1) = .ok (i, pc + n)) : decode c pc = .ok (i, n) := by
  show Except.bind ((Decoder.instr pc) c pc) _ = _
  rw [hf, u1_then hb, hk]
  show Except.ok (i, pc + n - pc) = _
  rw [Nat.add_sub_cancel_left]
theorem bA_q {c : ByteArray} {k : Nat} {l : List Nat} (hq : ((c.data.toList.drop k).take 70).map UInt8.toNat = l) (j b : Nat) (hj : l[j]? = some b) : bA c (k + j) b := by
  rw [← hq, List.getElem?_map, Option.map_eq_some_iff] at hj
  obtain ⟨x, hx, rfl⟩ := hj
  rw [List.getElem?_take] at hx
  split at hx
  · rw [List.getElem?_drop] at hx
    obtain ⟨h1, h2⟩ := List.getElem?_eq_some_iff.mp hx
    exact ⟨h1, congrArg UInt8.toNat h2⟩
  · cases hx
theorem op_3 {c : ByteArray} {pc : Nat} (h : bA c pc 3) : decode c pc = .ok (.iconst 0, 1) := dec_of h rfl rfl
theorem op_4 {c : ByteArray} {pc : Nat} (h : bA c pc 4) : decode c pc = .ok (.iconst 1, 1) := dec_of h rfl rfl
theorem op_5 {c : ByteArray} {pc : Nat} (h : bA c pc 5) : decode c pc = .ok (.iconst 2, 1) := dec_of h rfl rfl
theorem op_6 {c : ByteArray} {pc : Nat} (h : bA c pc 6) : decode c pc = .ok (.iconst 3, 1) := dec_of h rfl rfl
theorem op_7 {c : ByteArray} {pc : Nat} (h : bA c pc 7) : decode c pc = .ok (.iconst 4, 1) := dec_of h rfl rfl
theorem op_8 {c : ByteArray} {pc : Nat} (h : bA c pc 8) : decode c pc = .ok (.iconst 5, 1) := dec_of h rfl rfl
theorem op_21 {c : ByteArray} {pc o : Nat} (h : bA c pc 21) (h1 : bA c (pc + 1) o) : decode c pc = .ok (.iload o, 2) := dec_of h rfl (u1_pure (g := .iload) h1)
theorem op_42 {c : ByteArray} {pc : Nat} (h : bA c pc 42) : decode c pc = .ok (.aload_n 0, 1) := dec_of h rfl rfl
theorem op_43 {c : ByteArray} {pc : Nat} (h : bA c pc 43) : decode c pc = .ok (.aload_n 1, 1) := dec_of h rfl rfl
theorem op_44 {c : ByteArray} {pc : Nat} (h : bA c pc 44) : decode c pc = .ok (.aload_n 2, 1) := dec_of h rfl rfl
theorem op_45 {c : ByteArray} {pc : Nat} (h : bA c pc 45) : decode c pc = .ok (.aload_n 3, 1) := dec_of h rfl rfl
theorem op_46 {c : ByteArray} {pc : Nat} (h : bA c pc 46) : decode c pc = .ok (.iaload, 1) := dec_of h rfl rfl
theorem op_54 {c : ByteArray} {pc o : Nat} (h : bA c pc 54) (h1 : bA c (pc + 1) o) : decode c pc = .ok (.istore o, 2) := dec_of h rfl (u1_pure (g := .istore) h1)
theorem op_58 {c : ByteArray} {pc o : Nat} (h : bA c pc 58) (h1 : bA c (pc + 1) o) : decode c pc = .ok (.astore o, 2) := dec_of h rfl (u1_pure (g := .astore) h1)
theorem op_76 {c : ByteArray} {pc : Nat} (h : bA c pc 76) : decode c pc = .ok (.astore_n 1, 1) := dec_of h rfl rfl
theorem op_77 {c : ByteArray} {pc : Nat} (h : bA c pc 77) : decode c pc = .ok (.astore_n 2, 1) := dec_of h rfl rfl
theorem op_78 {c : ByteArray} {pc : Nat} (h : bA c pc 78) : decode c pc = .ok (.astore_n 3, 1) := dec_of h rfl rfl
theorem op_87 {c : ByteArray} {pc : Nat} (h : bA c pc 87) : decode c pc = .ok (.pop, 1) := dec_of h rfl rfl
theorem op_96 {c : ByteArray} {pc : Nat} (h : bA c pc 96) : decode c pc = .ok (.iadd, 1) := dec_of h rfl rfl
theorem op_153 {c : ByteArray} {pc hi lo : Nat} {o : Int} (h : bA c pc 153) (h1 : bA c (pc + 1) hi) (h2 : bA c (pc + 1 + 1) lo) (ho : Reader.signed 16 (hi * 256 + lo) = o) : decode c pc = .ok (.ifCond .eq o, 3) := dec_of h rfl (s2_pure (g := .ifCond .eq) h1 h2 ho)
theorem op_154 {c : ByteArray} {pc hi lo : Nat} {o : Int} (h : bA c pc 154) (h1 : bA c (pc + 1) hi) (h2 : bA c (pc + 1 + 1) lo) (ho : Reader.signed 16 (hi * 256 + lo) = o) : decode c pc = .ok (.ifCond .ne o, 3) := dec_of h rfl (s2_pure (g := .ifCond .ne) h1 h2 ho)
theorem op_167 {c : ByteArray} {pc hi lo : Nat} {o : Int} (h : bA c pc 167) (h1 : bA c (pc + 1) hi) (h2 : bA c (pc + 1 + 1) lo) (ho : Reader.signed 16 (hi * 256 + lo) = o) : decode c pc = .ok (.goto o, 3) := dec_of h rfl (s2_pure (g := .goto) h1 h2 ho)
theorem op_182 {c : ByteArray} {pc hi lo o : Nat} (h : bA c pc 182) (h1 : bA c (pc + 1) hi) (h2 : bA c (pc + 1 + 1) lo) (ho : hi * 256 + lo = o) : decode c pc = .ok (.invokevirtual o, 3) := dec_of h rfl (u2_pure (g := .invokevirtual) h1 h2 ho)
theorem op_184 {c : ByteArray} {pc hi lo o : Nat} (h : bA c pc 184) (h1 : bA c (pc + 1) hi) (h2 : bA c (pc + 1 + 1) lo) (ho : hi * 256 + lo = o) : decode c pc = .ok (.invokestatic o, 3) := dec_of h rfl (u2_pure (g := .invokestatic) h1 h2 ho)
end
section
def ql_0 : List Nat := [187, 0, 8, 89, 183, 0, 167, 76, 187, 0, 168, 89, 183, 0, 170, 77, 187, 0, 14, 89, 183, 0, 171, 78, 3, 54, 4, 21, 4, 42, 190, 16, 6, 100, 163, 8, 170, 42, 21, 4, 46, 16, 63, 126, 170, 0, 0, 0, 0, 0, 8, 154, 0, 0, 0, 0, 0, 0, 0, 48, 0, 0, 0, 212, 0, 0, 1, 8, 0, 0]
theorem qh_0 : ((cL_law.data.toList.drop 0).take 70).map UInt8.toNat = ql_0 := by decide +kernel
def ql_4 : List Nat := [43, 42, 21, 4, 4, 96, 46, 42, 21, 4, 5, 96, 46, 42, 21, 4, 6, 96, 46, 45, 184, 0, 172, 54, 5, 44, 42, 21, 4, 4, 96, 46, 42, 21, 4, 5, 96, 46, 42, 21, 4, 6, 96, 46, 182, 0, 177, 54, 6, 167, 7, 149, 43, 42, 21, 4, 4, 96, 46, 42, 21, 4, 5, 96, 46, 45, 184, 0, 178, 54]
theorem qh_4 : ((cL_law.data.toList.drop 256).take 70).map UInt8.toNat = ql_4 := by decide +kernel
def ql_5 : List Nat := [46, 45, 184, 0, 178, 54, 5, 44, 42, 21, 4, 4, 96, 46, 42, 21, 4, 5, 96, 46, 182, 0, 181, 54, 6, 167, 7, 109, 43, 42, 21, 4, 4, 96, 46, 42, 21, 4, 5, 96, 46, 45, 184, 0, 182, 54, 5, 44, 42, 21, 4, 4, 96, 46, 42, 21, 4, 5, 96, 46, 182, 0, 184, 54, 6, 167, 7, 69, 43, 42]
theorem qh_5 : ((cL_law.data.toList.drop 320).take 70).map UInt8.toNat = ql_5 := by decide +kernel
def ql_6 : List Nat := [6, 167, 7, 69, 43, 42, 21, 4, 4, 96, 46, 42, 21, 4, 5, 96, 46, 45, 184, 0, 185, 54, 5, 44, 42, 21, 4, 4, 96, 46, 42, 21, 4, 5, 96, 46, 182, 0, 187, 54, 6, 44, 182, 0, 188, 21, 5, 159, 0, 5, 3, 172, 21, 5, 154, 0, 16, 45, 180, 0, 13, 21, 6, 133, 148, 153, 0, 5, 3, 172]
theorem qh_6 : ((cL_law.data.toList.drop 384).take 70).map UInt8.toNat = ql_6 := by decide +kernel
def ql_7 : List Nat := [148, 153, 0, 5, 3, 172, 167, 7, 0, 43, 42, 21, 4, 4, 96, 46, 42, 21, 4, 5, 96, 46, 45, 184, 0, 192, 54, 5, 44, 42, 21, 4, 4, 96, 46, 42, 21, 4, 5, 96, 46, 182, 0, 194, 54, 6, 167, 6, 216, 43, 42, 21, 4, 4, 96, 46, 42, 21, 4, 5, 96, 46, 153, 0, 7, 4, 167, 0, 4, 3]
theorem qh_7 : ((cL_law.data.toList.drop 448).take 70).map UInt8.toNat = ql_7 := by decide +kernel
def ql_8 : List Nat := [7, 4, 167, 0, 4, 3, 45, 184, 0, 195, 54, 5, 44, 42, 21, 4, 4, 96, 46, 42, 21, 4, 5, 96, 46, 153, 0, 7, 4, 167, 0, 4, 3, 182, 0, 198, 54, 6, 167, 6, 160, 43, 42, 21, 4, 4, 96, 46, 45, 184, 0, 199, 54, 5, 44, 42, 21, 4, 4, 96, 46, 182, 0, 202, 58, 6, 167, 6, 132, 43]
theorem qh_8 : ((cL_law.data.toList.drop 512).take 70).map UInt8.toNat = ql_8 := by decide +kernel
def ql_9 : List Nat := [58, 6, 167, 6, 132, 43, 42, 21, 4, 4, 96, 46, 42, 21, 4, 5, 96, 46, 45, 184, 0, 203, 54, 5, 44, 42, 21, 4, 4, 96, 46, 42, 21, 4, 5, 96, 46, 182, 0, 205, 54, 6, 167, 6, 92, 43, 42, 21, 4, 4, 96, 46, 42, 21, 4, 5, 96, 46, 42, 21, 4, 6, 96, 46, 45, 184, 0, 206, 54, 5]
theorem qh_9 : ((cL_law.data.toList.drop 576).take 70).map UInt8.toNat = ql_9 := by decide +kernel
def ql_10 : List Nat := [45, 184, 0, 206, 54, 5, 44, 42, 21, 4, 4, 96, 46, 42, 21, 4, 5, 96, 46, 42, 21, 4, 6, 96, 46, 182, 0, 208, 54, 6, 167, 6, 40, 43, 42, 21, 4, 4, 96, 46, 42, 21, 4, 5, 96, 46, 42, 21, 4, 6, 96, 46, 42, 21, 4, 7, 96, 46, 45, 184, 0, 209, 54, 5, 44, 42, 21, 4, 4, 96]
theorem qh_10 : ((cL_law.data.toList.drop 640).take 70).map UInt8.toNat = ql_10 := by decide +kernel
def ql_11 : List Nat := [44, 42, 21, 4, 4, 96, 46, 42, 21, 4, 5, 96, 46, 42, 21, 4, 6, 96, 46, 42, 21, 4, 7, 96, 46, 182, 0, 212, 54, 6, 167, 5, 232, 43, 42, 21, 4, 4, 96, 46, 42, 21, 4, 5, 96, 46, 42, 21, 4, 6, 96, 46, 42, 21, 4, 7, 96, 46, 42, 21, 4, 8, 96, 46, 45, 184, 0, 213, 54, 5]
theorem qh_11 : ((cL_law.data.toList.drop 704).take 70).map UInt8.toNat = ql_11 := by decide +kernel
def ql_12 : List Nat := [45, 184, 0, 213, 54, 5, 44, 42, 21, 4, 4, 96, 46, 42, 21, 4, 5, 96, 46, 42, 21, 4, 6, 96, 46, 42, 21, 4, 7, 96, 46, 42, 21, 4, 8, 96, 46, 182, 0, 216, 54, 6, 167, 5, 156, 43, 42, 21, 4, 4, 96, 46, 42, 21, 4, 5, 96, 46, 42, 21, 4, 6, 96, 46, 45, 184, 0, 217, 54, 5]
theorem qh_12 : ((cL_law.data.toList.drop 768).take 70).map UInt8.toNat = ql_12 := by decide +kernel
def ql_13 : List Nat := [45, 184, 0, 217, 54, 5, 44, 42, 21, 4, 4, 96, 46, 42, 21, 4, 5, 96, 46, 42, 21, 4, 6, 96, 46, 182, 0, 219, 54, 6, 167, 5, 104, 43, 42, 21, 4, 4, 96, 46, 42, 21, 4, 5, 96, 46, 42, 21, 4, 6, 96, 46, 42, 21, 4, 7, 96, 46, 45, 184, 0, 220, 54, 5, 44, 42, 21, 4, 4, 96]
theorem qh_13 : ((cL_law.data.toList.drop 832).take 70).map UInt8.toNat = ql_13 := by decide +kernel
def ql_14 : List Nat := [44, 42, 21, 4, 4, 96, 46, 42, 21, 4, 5, 96, 46, 42, 21, 4, 6, 96, 46, 42, 21, 4, 7, 96, 46, 182, 0, 222, 54, 6, 167, 5, 40, 43, 42, 21, 4, 4, 96, 46, 42, 21, 4, 5, 96, 46, 42, 21, 4, 6, 96, 46, 42, 21, 4, 7, 96, 46, 42, 21, 4, 8, 96, 46, 45, 184, 0, 223, 54, 5]
theorem qh_14 : ((cL_law.data.toList.drop 896).take 70).map UInt8.toNat = ql_14 := by decide +kernel
def ql_15 : List Nat := [45, 184, 0, 223, 54, 5, 44, 42, 21, 4, 4, 96, 46, 42, 21, 4, 5, 96, 46, 42, 21, 4, 6, 96, 46, 42, 21, 4, 7, 96, 46, 42, 21, 4, 8, 96, 46, 182, 0, 225, 54, 6, 167, 4, 220, 43, 42, 21, 4, 4, 96, 46, 42, 21, 4, 5, 96, 46, 45, 184, 0, 226, 54, 5, 44, 42, 21, 4, 4, 96]
theorem qh_15 : ((cL_law.data.toList.drop 960).take 70).map UInt8.toNat = ql_15 := by decide +kernel
def ql_16 : List Nat := [44, 42, 21, 4, 4, 96, 46, 42, 21, 4, 5, 96, 46, 182, 0, 228, 54, 6, 167, 4, 180, 43, 42, 21, 4, 4, 96, 46, 42, 21, 4, 5, 96, 46, 45, 184, 0, 229, 54, 5, 44, 42, 21, 4, 4, 96, 46, 42, 21, 4, 5, 96, 46, 182, 0, 231, 54, 6, 167, 4, 140, 43, 42, 21, 4, 4, 96, 46, 42, 21]
theorem qh_16 : ((cL_law.data.toList.drop 1024).take 70).map UInt8.toNat = ql_16 := by decide +kernel
def ql_17 : List Nat := [4, 4, 96, 46, 42, 21, 4, 5, 96, 46, 45, 184, 0, 232, 54, 5, 44, 42, 21, 4, 4, 96, 46, 42, 21, 4, 5, 96, 46, 182, 0, 234, 54, 6, 167, 4, 100, 43, 42, 21, 4, 4, 96, 46, 42, 21, 4, 5, 96, 46, 45, 184, 0, 235, 54, 5, 44, 42, 21, 4, 4, 96, 46, 42, 21, 4, 5, 96, 46, 182]
theorem qh_17 : ((cL_law.data.toList.drop 1088).take 70).map UInt8.toNat = ql_17 := by decide +kernel
def ql_18 : List Nat := [21, 4, 5, 96, 46, 182, 0, 237, 54, 6, 167, 4, 60, 43, 42, 21, 4, 4, 96, 46, 42, 21, 4, 5, 96, 46, 42, 21, 4, 6, 96, 46, 45, 184, 0, 238, 54, 5, 44, 42, 21, 4, 4, 96, 46, 42, 21, 4, 5, 96, 46, 42, 21, 4, 6, 96, 46, 182, 0, 240, 54, 6, 167, 4, 8, 43, 42, 21, 4, 4]
theorem qh_18 : ((cL_law.data.toList.drop 1152).take 70).map UInt8.toNat = ql_18 := by decide +kernel
def ql_19 : List Nat := [8, 43, 42, 21, 4, 4, 96, 46, 42, 21, 4, 5, 96, 46, 45, 184, 0, 241, 54, 5, 44, 42, 21, 4, 4, 96, 46, 42, 21, 4, 5, 96, 46, 182, 0, 243, 54, 6, 167, 3, 224, 43, 42, 21, 4, 4, 96, 46, 45, 184, 0, 244, 54, 5, 44, 42, 21, 4, 4, 96, 46, 182, 0, 246, 54, 6, 167, 3, 196, 43]
theorem qh_19 : ((cL_law.data.toList.drop 1216).take 70).map UInt8.toNat = ql_19 := by decide +kernel
def ql_20 : List Nat := [54, 6, 167, 3, 196, 43, 42, 21, 4, 4, 96, 46, 45, 184, 0, 247, 54, 5, 44, 42, 21, 4, 4, 96, 46, 182, 0, 249, 54, 6, 167, 3, 168, 43, 42, 21, 4, 4, 96, 46, 45, 184, 0, 250, 54, 5, 44, 42, 21, 4, 4, 96, 46, 182, 0, 252, 54, 6, 167, 3, 140, 43, 42, 21, 4, 4, 96, 46, 45, 184]
theorem qh_20 : ((cL_law.data.toList.drop 1280).take 70).map UInt8.toNat = ql_20 := by decide +kernel
def ql_21 : List Nat := [4, 4, 96, 46, 45, 184, 0, 253, 54, 5, 44, 42, 21, 4, 4, 96, 46, 182, 0, 255, 54, 6, 167, 3, 112, 43, 42, 21, 4, 4, 96, 46, 42, 21, 4, 5, 96, 46, 42, 21, 4, 6, 96, 46, 153, 0, 7, 4, 167, 0, 4, 3, 45, 184, 1, 0, 54, 5, 44, 42, 21, 4, 4, 96, 46, 42, 21, 4, 5, 96]
theorem qh_21 : ((cL_law.data.toList.drop 1344).take 70).map UInt8.toNat = ql_21 := by decide +kernel
def ql_22 : List Nat := [46, 42, 21, 4, 5, 96, 46, 42, 21, 4, 6, 96, 46, 153, 0, 7, 4, 167, 0, 4, 3, 182, 1, 3, 54, 6, 167, 3, 44, 43, 42, 21, 4, 4, 96, 46, 42, 21, 4, 5, 96, 46, 42, 21, 4, 6, 96, 46, 45, 184, 1, 4, 54, 5, 44, 42, 21, 4, 4, 96, 46, 42, 21, 4, 5, 96, 46, 42, 21, 4]
theorem qh_22 : ((cL_law.data.toList.drop 1408).take 70).map UInt8.toNat = ql_22 := by decide +kernel
def ql_23 : List Nat := [5, 96, 46, 42, 21, 4, 6, 96, 46, 182, 1, 6, 54, 6, 167, 2, 248, 43, 42, 21, 4, 4, 96, 46, 45, 184, 1, 7, 54, 5, 44, 42, 21, 4, 4, 96, 46, 182, 1, 9, 58, 6, 167, 2, 220, 43, 42, 21, 4, 4, 96, 46, 42, 21, 4, 5, 96, 46, 45, 184, 1, 10, 54, 5, 44, 42, 21, 4, 4, 96]
theorem qh_23 : ((cL_law.data.toList.drop 1472).take 70).map UInt8.toNat = ql_23 := by decide +kernel
def ql_24 : List Nat := [44, 42, 21, 4, 4, 96, 46, 42, 21, 4, 5, 96, 46, 182, 1, 12, 54, 6, 167, 2, 180, 43, 42, 21, 4, 4, 96, 46, 42, 21, 4, 5, 96, 46, 45, 184, 1, 13, 54, 5, 44, 42, 21, 4, 4, 96, 46, 42, 21, 4, 5, 96, 46, 182, 1, 15, 54, 6, 167, 2, 140, 43, 42, 21, 4, 4, 96, 46, 42, 21]
theorem qh_24 : ((cL_law.data.toList.drop 1536).take 70).map UInt8.toNat = ql_24 := by decide +kernel
def ql_25 : List Nat := [4, 4, 96, 46, 42, 21, 4, 5, 96, 46, 45, 184, 1, 16, 54, 5, 44, 42, 21, 4, 4, 96, 46, 42, 21, 4, 5, 96, 46, 182, 1, 18, 54, 6, 167, 2, 100, 43, 42, 21, 4, 4, 96, 46, 42, 21, 4, 5, 96, 46, 42, 21, 4, 6, 96, 46, 153, 0, 7, 4, 167, 0, 4, 3, 45, 184, 1, 19, 54, 5]
theorem qh_25 : ((cL_law.data.toList.drop 1600).take 70).map UInt8.toNat = ql_25 := by decide +kernel
def ql_26 : List Nat := [45, 184, 1, 19, 54, 5, 44, 42, 21, 4, 4, 96, 46, 42, 21, 4, 5, 96, 46, 42, 21, 4, 6, 96, 46, 153, 0, 7, 4, 167, 0, 4, 3, 182, 1, 21, 54, 6, 167, 2, 32, 43, 42, 21, 4, 4, 96, 46, 42, 21, 4, 5, 96, 46, 42, 21, 4, 6, 96, 46, 45, 184, 1, 22, 54, 5, 44, 42, 21, 4]
theorem qh_26 : ((cL_law.data.toList.drop 1664).take 70).map UInt8.toNat = ql_26 := by decide +kernel
def ql_27 : List Nat := [54, 5, 44, 42, 21, 4, 4, 96, 46, 42, 21, 4, 5, 96, 46, 42, 21, 4, 6, 96, 46, 182, 1, 24, 54, 6, 167, 1, 236, 43, 42, 21, 4, 4, 96, 46, 42, 21, 4, 5, 96, 46, 45, 184, 1, 25, 54, 5, 44, 42, 21, 4, 4, 96, 46, 42, 21, 4, 5, 96, 46, 182, 1, 27, 54, 6, 167, 1, 196, 43]
theorem qh_27 : ((cL_law.data.toList.drop 1728).take 70).map UInt8.toNat = ql_27 := by decide +kernel
def ql_28 : List Nat := [54, 6, 167, 1, 196, 43, 42, 21, 4, 4, 96, 46, 45, 184, 1, 28, 54, 5, 44, 42, 21, 4, 4, 96, 46, 182, 1, 30, 54, 6, 167, 1, 168, 43, 42, 21, 4, 4, 96, 46, 42, 21, 4, 5, 96, 46, 45, 184, 1, 31, 54, 5, 44, 42, 21, 4, 4, 96, 46, 42, 21, 4, 5, 96, 46, 182, 1, 33, 54, 6]
theorem qh_28 : ((cL_law.data.toList.drop 1792).take 70).map UInt8.toNat = ql_28 := by decide +kernel
def ql_29 : List Nat := [46, 182, 1, 33, 54, 6, 167, 1, 128, 43, 42, 21, 4, 4, 96, 46, 42, 21, 4, 5, 96, 46, 45, 184, 1, 34, 54, 5, 44, 42, 21, 4, 4, 96, 46, 42, 21, 4, 5, 96, 46, 182, 1, 36, 54, 6, 167, 1, 88, 43, 42, 21, 4, 4, 96, 46, 45, 184, 1, 37, 54, 5, 44, 42, 21, 4, 4, 96, 46, 182]
theorem qh_29 : ((cL_law.data.toList.drop 1856).take 70).map UInt8.toNat = ql_29 := by decide +kernel
def ql_30 : List Nat := [21, 4, 4, 96, 46, 182, 1, 39, 54, 6, 167, 1, 60, 43, 42, 21, 4, 4, 96, 46, 45, 184, 1, 40, 54, 5, 44, 42, 21, 4, 4, 96, 46, 182, 1, 42, 54, 6, 167, 1, 32, 43, 42, 21, 4, 4, 96, 46, 42, 21, 4, 5, 96, 46, 153, 0, 7, 4, 167, 0, 4, 3, 45, 184, 1, 43, 54, 5, 44, 42]
theorem qh_30 : ((cL_law.data.toList.drop 1920).take 70).map UInt8.toNat = ql_30 := by decide +kernel
def ql_31 : List Nat := [1, 43, 54, 5, 44, 42, 21, 4, 4, 96, 46, 42, 21, 4, 5, 96, 46, 153, 0, 7, 4, 167, 0, 4, 3, 182, 1, 45, 54, 6, 167, 0, 232, 43, 42, 21, 4, 4, 96, 46, 45, 184, 1, 46, 54, 5, 44, 42, 21, 4, 4, 96, 46, 182, 1, 48, 54, 6, 167, 0, 204, 43, 42, 21, 4, 4, 96, 46, 45, 184]
theorem qh_31 : ((cL_law.data.toList.drop 1984).take 70).map UInt8.toNat = ql_31 := by decide +kernel
def ql_32 : List Nat := [4, 4, 96, 46, 45, 184, 1, 49, 54, 5, 44, 42, 21, 4, 4, 96, 46, 182, 1, 51, 54, 6, 167, 0, 176, 43, 42, 21, 4, 4, 96, 46, 42, 21, 4, 5, 96, 46, 45, 184, 1, 52, 54, 5, 44, 42, 21, 4, 4, 96, 46, 42, 21, 4, 5, 96, 46, 182, 1, 54, 54, 6, 167, 0, 136, 43, 182, 1, 55, 87]
theorem qh_32 : ((cL_law.data.toList.drop 2048).take 70).map UInt8.toNat = ql_32 := by decide +kernel
def ql_33 : List Nat := [136, 43, 182, 1, 55, 87, 44, 182, 1, 58, 87, 167, 0, 123, 43, 182, 1, 59, 87, 44, 182, 1, 62, 87, 167, 0, 110, 43, 42, 21, 4, 4, 96, 46, 42, 21, 4, 5, 96, 46, 45, 184, 1, 63, 54, 5, 44, 42, 21, 4, 4, 96, 46, 42, 21, 4, 5, 96, 46, 182, 1, 65, 54, 6, 167, 0, 70, 43, 42, 21]
theorem qh_33 : ((cL_law.data.toList.drop 2112).take 70).map UInt8.toNat = ql_33 := by decide +kernel
def ql_34 : List Nat := [167, 0, 70, 43, 42, 21, 4, 4, 96, 46, 45, 184, 1, 66, 54, 5, 44, 42, 21, 4, 4, 96, 46, 182, 1, 68, 54, 6, 167, 0, 42, 43, 182, 1, 69, 87, 44, 182, 1, 72, 87, 167, 0, 29, 43, 182, 1, 73, 87, 44, 182, 1, 77, 87, 167, 0, 16, 43, 182, 1, 78, 88, 44, 182, 1, 82, 88, 167, 0, 3]
theorem qh_34 : ((cL_law.data.toList.drop 2176).take 70).map UInt8.toNat = ql_34 := by decide +kernel
def ql_35 : List Nat := [1, 82, 88, 167, 0, 3, 132, 4, 6, 167, 247, 82, 4, 172]
theorem qh_35 : ((cL_law.data.toList.drop 2240).take 70).map UInt8.toNat = ql_35 := by decide +kernel
end
theorem dL_law_0 : decode cL_law 0 = .ok (.new 8, 3) := by decide +kernel
theorem dL_law_3 : decode cL_law 3 = .ok (.dup, 1) := by decide +kernel
theorem dL_law_4 : decode cL_law 4 = .ok (.invokespecial 167, 3) := by decide +kernel
theorem dL_law_7 : decode cL_law 7 = .ok (.astore_n 1, 1) := op_76 (bA_q qh_0 7 76 rfl)
theorem dL_law_8 : decode cL_law 8 = .ok (.new 168, 3) := by decide +kernel
theorem dL_law_11 : decode cL_law 11 = .ok (.dup, 1) := by decide +kernel
theorem dL_law_12 : decode cL_law 12 = .ok (.invokespecial 170, 3) := by decide +kernel
theorem dL_law_15 : decode cL_law 15 = .ok (.astore_n 2, 1) := op_77 (bA_q qh_0 15 77 rfl)
theorem dL_law_16 : decode cL_law 16 = .ok (.new 14, 3) := by decide +kernel
theorem dL_law_19 : decode cL_law 19 = .ok (.dup, 1) := by decide +kernel
theorem dL_law_20 : decode cL_law 20 = .ok (.invokespecial 171, 3) := by decide +kernel
theorem dL_law_23 : decode cL_law 23 = .ok (.astore_n 3, 1) := op_78 (bA_q qh_0 23 78 rfl)
theorem dL_law_24 : decode cL_law 24 = .ok (.iconst 0, 1) := op_3 (bA_q qh_0 24 3 rfl)
theorem dL_law_25 : decode cL_law 25 = .ok (.istore 4, 2) := op_54 (bA_q qh_0 25 54 rfl) (bA_q qh_0 26 4 rfl)
theorem dL_law_27 : decode cL_law 27 = .ok (.iload 4, 2) := op_21 (bA_q qh_0 27 21 rfl) (bA_q qh_0 28 4 rfl)
theorem dL_law_29 : decode cL_law 29 = .ok (.aload_n 0, 1) := op_42 (bA_q qh_0 29 42 rfl)
theorem dL_law_30 : decode cL_law 30 = .ok (.arraylength, 1) := by decide +kernel
theorem dL_law_31 : decode cL_law 31 = .ok (.bipush 6, 2) := by decide +kernel
theorem dL_law_33 : decode cL_law 33 = .ok (.isub, 1) := by decide +kernel
theorem dL_law_34 : decode cL_law 34 = .ok (.if_icmp .gt 2218, 3) := by decide +kernel
theorem dL_law_37 : decode cL_law 37 = .ok (.aload_n 0, 1) := op_42 (bA_q qh_0 37 42 rfl)
theorem dL_law_38 : decode cL_law 38 = .ok (.iload 4, 2) := op_21 (bA_q qh_0 38 21 rfl) (bA_q qh_0 39 4 rfl)
theorem dL_law_40 : decode cL_law 40 = .ok (.iaload, 1) := op_46 (bA_q qh_0 40 46 rfl)
theorem dL_law_41 : decode cL_law 41 = .ok (.bipush 63, 2) := by decide +kernel
theorem dL_law_43 : decode cL_law 43 = .ok (.iand, 1) := by decide +kernel
theorem dL_law_44 : decode cL_law 44 = .ok (.tableswitch 2202 0 48 #[212, 264, 304, 344, 413, 453, 509, 537, 577, 629, 693, 769, 821, 885, 961, 1001, 1041, 1081, 1121, 1173, 1213, 1241, 1269, 1297, 1325, 1393, 1445, 1473, 1513, 1553, 1593, 1661, 1713, 1753, 1781, 1821, 1861, 1889, 1917, 1973, 2001, 2029, 2069, 2082, 2095, 2135, 2163, 2176, 2189], 212) := by decide +kernel
theorem dL_law_256 : decode cL_law 256 = .ok (.aload_n 1, 1) := op_43 (bA_q qh_4 0 43 rfl)
theorem dL_law_257 : decode cL_law 257 = .ok (.aload_n 0, 1) := op_42 (bA_q qh_4 1 42 rfl)
theorem dL_law_258 : decode cL_law 258 = .ok (.iload 4, 2) := op_21 (bA_q qh_4 2 21 rfl) (bA_q qh_4 3 4 rfl)
theorem dL_law_260 : decode cL_law 260 = .ok (.iconst 1, 1) := op_4 (bA_q qh_4 4 4 rfl)
theorem dL_law_261 : decode cL_law 261 = .ok (.iadd, 1) := op_96 (bA_q qh_4 5 96 rfl)
theorem dL_law_262 : decode cL_law 262 = .ok (.iaload, 1) := op_46 (bA_q qh_4 6 46 rfl)
theorem dL_law_263 : decode cL_law 263 = .ok (.aload_n 0, 1) := op_42 (bA_q qh_4 7 42 rfl)
theorem dL_law_264 : decode cL_law 264 = .ok (.iload 4, 2) := op_21 (bA_q qh_4 8 21 rfl) (bA_q qh_4 9 4 rfl)
theorem dL_law_266 : decode cL_law 266 = .ok (.iconst 2, 1) := op_5 (bA_q qh_4 10 5 rfl)
theorem dL_law_267 : decode cL_law 267 = .ok (.iadd, 1) := op_96 (bA_q qh_4 11 96 rfl)
theorem dL_law_268 : decode cL_law 268 = .ok (.iaload, 1) := op_46 (bA_q qh_4 12 46 rfl)
theorem dL_law_269 : decode cL_law 269 = .ok (.aload_n 0, 1) := op_42 (bA_q qh_4 13 42 rfl)
theorem dL_law_270 : decode cL_law 270 = .ok (.iload 4, 2) := op_21 (bA_q qh_4 14 21 rfl) (bA_q qh_4 15 4 rfl)
theorem dL_law_272 : decode cL_law 272 = .ok (.iconst 3, 1) := op_6 (bA_q qh_4 16 6 rfl)
theorem dL_law_273 : decode cL_law 273 = .ok (.iadd, 1) := op_96 (bA_q qh_4 17 96 rfl)
theorem dL_law_274 : decode cL_law 274 = .ok (.iaload, 1) := op_46 (bA_q qh_4 18 46 rfl)
theorem dL_law_275 : decode cL_law 275 = .ok (.aload_n 3, 1) := op_45 (bA_q qh_4 19 45 rfl)
theorem dL_law_276 : decode cL_law 276 = .ok (.invokestatic 172, 3) := op_184 (bA_q qh_4 20 184 rfl) (bA_q qh_4 21 0 rfl) (bA_q qh_4 22 172 rfl) rfl
theorem dL_law_279 : decode cL_law 279 = .ok (.istore 5, 2) := op_54 (bA_q qh_4 23 54 rfl) (bA_q qh_4 24 5 rfl)
theorem dL_law_281 : decode cL_law 281 = .ok (.aload_n 2, 1) := op_44 (bA_q qh_4 25 44 rfl)
theorem dL_law_282 : decode cL_law 282 = .ok (.aload_n 0, 1) := op_42 (bA_q qh_4 26 42 rfl)
theorem dL_law_283 : decode cL_law 283 = .ok (.iload 4, 2) := op_21 (bA_q qh_4 27 21 rfl) (bA_q qh_4 28 4 rfl)
theorem dL_law_285 : decode cL_law 285 = .ok (.iconst 1, 1) := op_4 (bA_q qh_4 29 4 rfl)
theorem dL_law_286 : decode cL_law 286 = .ok (.iadd, 1) := op_96 (bA_q qh_4 30 96 rfl)
theorem dL_law_287 : decode cL_law 287 = .ok (.iaload, 1) := op_46 (bA_q qh_4 31 46 rfl)
theorem dL_law_288 : decode cL_law 288 = .ok (.aload_n 0, 1) := op_42 (bA_q qh_4 32 42 rfl)
theorem dL_law_289 : decode cL_law 289 = .ok (.iload 4, 2) := op_21 (bA_q qh_4 33 21 rfl) (bA_q qh_4 34 4 rfl)
theorem dL_law_291 : decode cL_law 291 = .ok (.iconst 2, 1) := op_5 (bA_q qh_4 35 5 rfl)
theorem dL_law_292 : decode cL_law 292 = .ok (.iadd, 1) := op_96 (bA_q qh_4 36 96 rfl)
theorem dL_law_293 : decode cL_law 293 = .ok (.iaload, 1) := op_46 (bA_q qh_4 37 46 rfl)
theorem dL_law_294 : decode cL_law 294 = .ok (.aload_n 0, 1) := op_42 (bA_q qh_4 38 42 rfl)
theorem dL_law_295 : decode cL_law 295 = .ok (.iload 4, 2) := op_21 (bA_q qh_4 39 21 rfl) (bA_q qh_4 40 4 rfl)
theorem dL_law_297 : decode cL_law 297 = .ok (.iconst 3, 1) := op_6 (bA_q qh_4 41 6 rfl)
theorem dL_law_298 : decode cL_law 298 = .ok (.iadd, 1) := op_96 (bA_q qh_4 42 96 rfl)
theorem dL_law_299 : decode cL_law 299 = .ok (.iaload, 1) := op_46 (bA_q qh_4 43 46 rfl)
theorem dL_law_300 : decode cL_law 300 = .ok (.invokevirtual 177, 3) := op_182 (bA_q qh_4 44 182 rfl) (bA_q qh_4 45 0 rfl) (bA_q qh_4 46 177 rfl) rfl
theorem dL_law_303 : decode cL_law 303 = .ok (.istore 6, 2) := op_54 (bA_q qh_4 47 54 rfl) (bA_q qh_4 48 6 rfl)
theorem dL_law_305 : decode cL_law 305 = .ok (.goto 1941, 3) := op_167 (bA_q qh_4 49 167 rfl) (bA_q qh_4 50 7 rfl) (bA_q qh_4 51 149 rfl) rfl
theorem dL_law_308 : decode cL_law 308 = .ok (.aload_n 1, 1) := op_43 (bA_q qh_4 52 43 rfl)
theorem dL_law_309 : decode cL_law 309 = .ok (.aload_n 0, 1) := op_42 (bA_q qh_4 53 42 rfl)
theorem dL_law_310 : decode cL_law 310 = .ok (.iload 4, 2) := op_21 (bA_q qh_4 54 21 rfl) (bA_q qh_4 55 4 rfl)
theorem dL_law_312 : decode cL_law 312 = .ok (.iconst 1, 1) := op_4 (bA_q qh_4 56 4 rfl)
theorem dL_law_313 : decode cL_law 313 = .ok (.iadd, 1) := op_96 (bA_q qh_4 57 96 rfl)
theorem dL_law_314 : decode cL_law 314 = .ok (.iaload, 1) := op_46 (bA_q qh_4 58 46 rfl)
theorem dL_law_315 : decode cL_law 315 = .ok (.aload_n 0, 1) := op_42 (bA_q qh_4 59 42 rfl)
theorem dL_law_316 : decode cL_law 316 = .ok (.iload 4, 2) := op_21 (bA_q qh_4 60 21 rfl) (bA_q qh_4 61 4 rfl)
theorem dL_law_318 : decode cL_law 318 = .ok (.iconst 2, 1) := op_5 (bA_q qh_4 62 5 rfl)
theorem dL_law_319 : decode cL_law 319 = .ok (.iadd, 1) := op_96 (bA_q qh_4 63 96 rfl)
theorem dL_law_320 : decode cL_law 320 = .ok (.iaload, 1) := op_46 (bA_q qh_5 0 46 rfl)
theorem dL_law_321 : decode cL_law 321 = .ok (.aload_n 3, 1) := op_45 (bA_q qh_5 1 45 rfl)
theorem dL_law_322 : decode cL_law 322 = .ok (.invokestatic 178, 3) := op_184 (bA_q qh_5 2 184 rfl) (bA_q qh_5 3 0 rfl) (bA_q qh_5 4 178 rfl) rfl
theorem dL_law_325 : decode cL_law 325 = .ok (.istore 5, 2) := op_54 (bA_q qh_5 5 54 rfl) (bA_q qh_5 6 5 rfl)
theorem dL_law_327 : decode cL_law 327 = .ok (.aload_n 2, 1) := op_44 (bA_q qh_5 7 44 rfl)
theorem dL_law_328 : decode cL_law 328 = .ok (.aload_n 0, 1) := op_42 (bA_q qh_5 8 42 rfl)
theorem dL_law_329 : decode cL_law 329 = .ok (.iload 4, 2) := op_21 (bA_q qh_5 9 21 rfl) (bA_q qh_5 10 4 rfl)
theorem dL_law_331 : decode cL_law 331 = .ok (.iconst 1, 1) := op_4 (bA_q qh_5 11 4 rfl)
theorem dL_law_332 : decode cL_law 332 = .ok (.iadd, 1) := op_96 (bA_q qh_5 12 96 rfl)
theorem dL_law_333 : decode cL_law 333 = .ok (.iaload, 1) := op_46 (bA_q qh_5 13 46 rfl)
theorem dL_law_334 : decode cL_law 334 = .ok (.aload_n 0, 1) := op_42 (bA_q qh_5 14 42 rfl)
theorem dL_law_335 : decode cL_law 335 = .ok (.iload 4, 2) := op_21 (bA_q qh_5 15 21 rfl) (bA_q qh_5 16 4 rfl)
theorem dL_law_337 : decode cL_law 337 = .ok (.iconst 2, 1) := op_5 (bA_q qh_5 17 5 rfl)
theorem dL_law_338 : decode cL_law 338 = .ok (.iadd, 1) := op_96 (bA_q qh_5 18 96 rfl)
theorem dL_law_339 : decode cL_law 339 = .ok (.iaload, 1) := op_46 (bA_q qh_5 19 46 rfl)
theorem dL_law_340 : decode cL_law 340 = .ok (.invokevirtual 181, 3) := op_182 (bA_q qh_5 20 182 rfl) (bA_q qh_5 21 0 rfl) (bA_q qh_5 22 181 rfl) rfl
theorem dL_law_343 : decode cL_law 343 = .ok (.istore 6, 2) := op_54 (bA_q qh_5 23 54 rfl) (bA_q qh_5 24 6 rfl)
theorem dL_law_345 : decode cL_law 345 = .ok (.goto 1901, 3) := op_167 (bA_q qh_5 25 167 rfl) (bA_q qh_5 26 7 rfl) (bA_q qh_5 27 109 rfl) rfl
theorem dL_law_348 : decode cL_law 348 = .ok (.aload_n 1, 1) := op_43 (bA_q qh_5 28 43 rfl)
theorem dL_law_349 : decode cL_law 349 = .ok (.aload_n 0, 1) := op_42 (bA_q qh_5 29 42 rfl)
theorem dL_law_350 : decode cL_law 350 = .ok (.iload 4, 2) := op_21 (bA_q qh_5 30 21 rfl) (bA_q qh_5 31 4 rfl)
theorem dL_law_352 : decode cL_law 352 = .ok (.iconst 1, 1) := op_4 (bA_q qh_5 32 4 rfl)
theorem dL_law_353 : decode cL_law 353 = .ok (.iadd, 1) := op_96 (bA_q qh_5 33 96 rfl)
theorem dL_law_354 : decode cL_law 354 = .ok (.iaload, 1) := op_46 (bA_q qh_5 34 46 rfl)
theorem dL_law_355 : decode cL_law 355 = .ok (.aload_n 0, 1) := op_42 (bA_q qh_5 35 42 rfl)
theorem dL_law_356 : decode cL_law 356 = .ok (.iload 4, 2) := op_21 (bA_q qh_5 36 21 rfl) (bA_q qh_5 37 4 rfl)
theorem dL_law_358 : decode cL_law 358 = .ok (.iconst 2, 1) := op_5 (bA_q qh_5 38 5 rfl)
theorem dL_law_359 : decode cL_law 359 = .ok (.iadd, 1) := op_96 (bA_q qh_5 39 96 rfl)
theorem dL_law_360 : decode cL_law 360 = .ok (.iaload, 1) := op_46 (bA_q qh_5 40 46 rfl)
theorem dL_law_361 : decode cL_law 361 = .ok (.aload_n 3, 1) := op_45 (bA_q qh_5 41 45 rfl)
theorem dL_law_362 : decode cL_law 362 = .ok (.invokestatic 182, 3) := op_184 (bA_q qh_5 42 184 rfl) (bA_q qh_5 43 0 rfl) (bA_q qh_5 44 182 rfl) rfl
theorem dL_law_365 : decode cL_law 365 = .ok (.istore 5, 2) := op_54 (bA_q qh_5 45 54 rfl) (bA_q qh_5 46 5 rfl)
theorem dL_law_367 : decode cL_law 367 = .ok (.aload_n 2, 1) := op_44 (bA_q qh_5 47 44 rfl)
theorem dL_law_368 : decode cL_law 368 = .ok (.aload_n 0, 1) := op_42 (bA_q qh_5 48 42 rfl)
theorem dL_law_369 : decode cL_law 369 = .ok (.iload 4, 2) := op_21 (bA_q qh_5 49 21 rfl) (bA_q qh_5 50 4 rfl)
theorem dL_law_371 : decode cL_law 371 = .ok (.iconst 1, 1) := op_4 (bA_q qh_5 51 4 rfl)
theorem dL_law_372 : decode cL_law 372 = .ok (.iadd, 1) := op_96 (bA_q qh_5 52 96 rfl)
theorem dL_law_373 : decode cL_law 373 = .ok (.iaload, 1) := op_46 (bA_q qh_5 53 46 rfl)
theorem dL_law_374 : decode cL_law 374 = .ok (.aload_n 0, 1) := op_42 (bA_q qh_5 54 42 rfl)
theorem dL_law_375 : decode cL_law 375 = .ok (.iload 4, 2) := op_21 (bA_q qh_5 55 21 rfl) (bA_q qh_5 56 4 rfl)
theorem dL_law_377 : decode cL_law 377 = .ok (.iconst 2, 1) := op_5 (bA_q qh_5 57 5 rfl)
theorem dL_law_378 : decode cL_law 378 = .ok (.iadd, 1) := op_96 (bA_q qh_5 58 96 rfl)
theorem dL_law_379 : decode cL_law 379 = .ok (.iaload, 1) := op_46 (bA_q qh_5 59 46 rfl)
theorem dL_law_380 : decode cL_law 380 = .ok (.invokevirtual 184, 3) := op_182 (bA_q qh_5 60 182 rfl) (bA_q qh_5 61 0 rfl) (bA_q qh_5 62 184 rfl) rfl
theorem dL_law_383 : decode cL_law 383 = .ok (.istore 6, 2) := op_54 (bA_q qh_5 63 54 rfl) (bA_q qh_5 64 6 rfl)
theorem dL_law_385 : decode cL_law 385 = .ok (.goto 1861, 3) := op_167 (bA_q qh_6 1 167 rfl) (bA_q qh_6 2 7 rfl) (bA_q qh_6 3 69 rfl) rfl
theorem dL_law_388 : decode cL_law 388 = .ok (.aload_n 1, 1) := op_43 (bA_q qh_6 4 43 rfl)
theorem dL_law_389 : decode cL_law 389 = .ok (.aload_n 0, 1) := op_42 (bA_q qh_6 5 42 rfl)
theorem dL_law_390 : decode cL_law 390 = .ok (.iload 4, 2) := op_21 (bA_q qh_6 6 21 rfl) (bA_q qh_6 7 4 rfl)
theorem dL_law_392 : decode cL_law 392 = .ok (.iconst 1, 1) := op_4 (bA_q qh_6 8 4 rfl)
theorem dL_law_393 : decode cL_law 393 = .ok (.iadd, 1) := op_96 (bA_q qh_6 9 96 rfl)
theorem dL_law_394 : decode cL_law 394 = .ok (.iaload, 1) := op_46 (bA_q qh_6 10 46 rfl)
theorem dL_law_395 : decode cL_law 395 = .ok (.aload_n 0, 1) := op_42 (bA_q qh_6 11 42 rfl)
theorem dL_law_396 : decode cL_law 396 = .ok (.iload 4, 2) := op_21 (bA_q qh_6 12 21 rfl) (bA_q qh_6 13 4 rfl)
theorem dL_law_398 : decode cL_law 398 = .ok (.iconst 2, 1) := op_5 (bA_q qh_6 14 5 rfl)
theorem dL_law_399 : decode cL_law 399 = .ok (.iadd, 1) := op_96 (bA_q qh_6 15 96 rfl)
theorem dL_law_400 : decode cL_law 400 = .ok (.iaload, 1) := op_46 (bA_q qh_6 16 46 rfl)
theorem dL_law_401 : decode cL_law 401 = .ok (.aload_n 3, 1) := op_45 (bA_q qh_6 17 45 rfl)
theorem dL_law_402 : decode cL_law 402 = .ok (.invokestatic 185, 3) := op_184 (bA_q qh_6 18 184 rfl) (bA_q qh_6 19 0 rfl) (bA_q qh_6 20 185 rfl) rfl
theorem dL_law_405 : decode cL_law 405 = .ok (.istore 5, 2) := op_54 (bA_q qh_6 21 54 rfl) (bA_q qh_6 22 5 rfl)
theorem dL_law_407 : decode cL_law 407 = .ok (.aload_n 2, 1) := op_44 (bA_q qh_6 23 44 rfl)
theorem dL_law_408 : decode cL_law 408 = .ok (.aload_n 0, 1) := op_42 (bA_q qh_6 24 42 rfl)
theorem dL_law_409 : decode cL_law 409 = .ok (.iload 4, 2) := op_21 (bA_q qh_6 25 21 rfl) (bA_q qh_6 26 4 rfl)
theorem dL_law_411 : decode cL_law 411 = .ok (.iconst 1, 1) := op_4 (bA_q qh_6 27 4 rfl)
theorem dL_law_412 : decode cL_law 412 = .ok (.iadd, 1) := op_96 (bA_q qh_6 28 96 rfl)
theorem dL_law_413 : decode cL_law 413 = .ok (.iaload, 1) := op_46 (bA_q qh_6 29 46 rfl)
theorem dL_law_414 : decode cL_law 414 = .ok (.aload_n 0, 1) := op_42 (bA_q qh_6 30 42 rfl)
theorem dL_law_415 : decode cL_law 415 = .ok (.iload 4, 2) := op_21 (bA_q qh_6 31 21 rfl) (bA_q qh_6 32 4 rfl)
theorem dL_law_417 : decode cL_law 417 = .ok (.iconst 2, 1) := op_5 (bA_q qh_6 33 5 rfl)
theorem dL_law_418 : decode cL_law 418 = .ok (.iadd, 1) := op_96 (bA_q qh_6 34 96 rfl)
theorem dL_law_419 : decode cL_law 419 = .ok (.iaload, 1) := op_46 (bA_q qh_6 35 46 rfl)
theorem dL_law_420 : decode cL_law 420 = .ok (.invokevirtual 187, 3) := op_182 (bA_q qh_6 36 182 rfl) (bA_q qh_6 37 0 rfl) (bA_q qh_6 38 187 rfl) rfl
theorem dL_law_423 : decode cL_law 423 = .ok (.istore 6, 2) := op_54 (bA_q qh_6 39 54 rfl) (bA_q qh_6 40 6 rfl)
theorem dL_law_425 : decode cL_law 425 = .ok (.aload_n 2, 1) := op_44 (bA_q qh_6 41 44 rfl)
theorem dL_law_426 : decode cL_law 426 = .ok (.invokevirtual 188, 3) := op_182 (bA_q qh_6 42 182 rfl) (bA_q qh_6 43 0 rfl) (bA_q qh_6 44 188 rfl) rfl
theorem dL_law_429 : decode cL_law 429 = .ok (.iload 5, 2) := op_21 (bA_q qh_6 45 21 rfl) (bA_q qh_6 46 5 rfl)
theorem dL_law_431 : decode cL_law 431 = .ok (.if_icmp .eq 5, 3) := by decide +kernel
theorem dL_law_434 : decode cL_law 434 = .ok (.iconst 0, 1) := op_3 (bA_q qh_6 50 3 rfl)
theorem dL_law_435 : decode cL_law 435 = .ok (.ireturn, 1) := by decide +kernel
theorem dL_law_436 : decode cL_law 436 = .ok (.iload 5, 2) := op_21 (bA_q qh_6 52 21 rfl) (bA_q qh_6 53 5 rfl)
theorem dL_law_438 : decode cL_law 438 = .ok (.ifCond .ne 16, 3) := op_154 (bA_q qh_6 54 154 rfl) (bA_q qh_6 55 0 rfl) (bA_q qh_6 56 16 rfl) rfl
theorem dL_law_441 : decode cL_law 441 = .ok (.aload_n 3, 1) := op_45 (bA_q qh_6 57 45 rfl)
theorem dL_law_442 : decode cL_law 442 = .ok (.getfield 13, 3) := by decide +kernel
theorem dL_law_445 : decode cL_law 445 = .ok (.iload 6, 2) := op_21 (bA_q qh_6 61 21 rfl) (bA_q qh_6 62 6 rfl)
theorem dL_law_447 : decode cL_law 447 = .ok (.i2l, 1) := by decide +kernel
theorem dL_law_448 : decode cL_law 448 = .ok (.lcmp, 1) := by decide +kernel
theorem dL_law_449 : decode cL_law 449 = .ok (.ifCond .eq 5, 3) := op_153 (bA_q qh_7 1 153 rfl) (bA_q qh_7 2 0 rfl) (bA_q qh_7 3 5 rfl) rfl
theorem dL_law_452 : decode cL_law 452 = .ok (.iconst 0, 1) := op_3 (bA_q qh_7 4 3 rfl)
theorem dL_law_453 : decode cL_law 453 = .ok (.ireturn, 1) := by decide +kernel
theorem dL_law_454 : decode cL_law 454 = .ok (.goto 1792, 3) := op_167 (bA_q qh_7 6 167 rfl) (bA_q qh_7 7 7 rfl) (bA_q qh_7 8 0 rfl) rfl
theorem dL_law_457 : decode cL_law 457 = .ok (.aload_n 1, 1) := op_43 (bA_q qh_7 9 43 rfl)
theorem dL_law_458 : decode cL_law 458 = .ok (.aload_n 0, 1) := op_42 (bA_q qh_7 10 42 rfl)
theorem dL_law_459 : decode cL_law 459 = .ok (.iload 4, 2) := op_21 (bA_q qh_7 11 21 rfl) (bA_q qh_7 12 4 rfl)
theorem dL_law_461 : decode cL_law 461 = .ok (.iconst 1, 1) := op_4 (bA_q qh_7 13 4 rfl)
theorem dL_law_462 : decode cL_law 462 = .ok (.iadd, 1) := op_96 (bA_q qh_7 14 96 rfl)
theorem dL_law_463 : decode cL_law 463 = .ok (.iaload, 1) := op_46 (bA_q qh_7 15 46 rfl)
theorem dL_law_464 : decode cL_law 464 = .ok (.aload_n 0, 1) := op_42 (bA_q qh_7 16 42 rfl)
theorem dL_law_465 : decode cL_law 465 = .ok (.iload 4, 2) := op_21 (bA_q qh_7 17 21 rfl) (bA_q qh_7 18 4 rfl)
theorem dL_law_467 : decode cL_law 467 = .ok (.iconst 2, 1) := op_5 (bA_q qh_7 19 5 rfl)
theorem dL_law_468 : decode cL_law 468 = .ok (.iadd, 1) := op_96 (bA_q qh_7 20 96 rfl)
theorem dL_law_469 : decode cL_law 469 = .ok (.iaload, 1) := op_46 (bA_q qh_7 21 46 rfl)
theorem dL_law_470 : decode cL_law 470 = .ok (.aload_n 3, 1) := op_45 (bA_q qh_7 22 45 rfl)
theorem dL_law_471 : decode cL_law 471 = .ok (.invokestatic 192, 3) := op_184 (bA_q qh_7 23 184 rfl) (bA_q qh_7 24 0 rfl) (bA_q qh_7 25 192 rfl) rfl
theorem dL_law_474 : decode cL_law 474 = .ok (.istore 5, 2) := op_54 (bA_q qh_7 26 54 rfl) (bA_q qh_7 27 5 rfl)
theorem dL_law_476 : decode cL_law 476 = .ok (.aload_n 2, 1) := op_44 (bA_q qh_7 28 44 rfl)
theorem dL_law_477 : decode cL_law 477 = .ok (.aload_n 0, 1) := op_42 (bA_q qh_7 29 42 rfl)
theorem dL_law_478 : decode cL_law 478 = .ok (.iload 4, 2) := op_21 (bA_q qh_7 30 21 rfl) (bA_q qh_7 31 4 rfl)
theorem dL_law_480 : decode cL_law 480 = .ok (.iconst 1, 1) := op_4 (bA_q qh_7 32 4 rfl)
theorem dL_law_481 : decode cL_law 481 = .ok (.iadd, 1) := op_96 (bA_q qh_7 33 96 rfl)
theorem dL_law_482 : decode cL_law 482 = .ok (.iaload, 1) := op_46 (bA_q qh_7 34 46 rfl)
theorem dL_law_483 : decode cL_law 483 = .ok (.aload_n 0, 1) := op_42 (bA_q qh_7 35 42 rfl)
theorem dL_law_484 : decode cL_law 484 = .ok (.iload 4, 2) := op_21 (bA_q qh_7 36 21 rfl) (bA_q qh_7 37 4 rfl)
theorem dL_law_486 : decode cL_law 486 = .ok (.iconst 2, 1) := op_5 (bA_q qh_7 38 5 rfl)
theorem dL_law_487 : decode cL_law 487 = .ok (.iadd, 1) := op_96 (bA_q qh_7 39 96 rfl)
theorem dL_law_488 : decode cL_law 488 = .ok (.iaload, 1) := op_46 (bA_q qh_7 40 46 rfl)
theorem dL_law_489 : decode cL_law 489 = .ok (.invokevirtual 194, 3) := op_182 (bA_q qh_7 41 182 rfl) (bA_q qh_7 42 0 rfl) (bA_q qh_7 43 194 rfl) rfl
theorem dL_law_492 : decode cL_law 492 = .ok (.istore 6, 2) := op_54 (bA_q qh_7 44 54 rfl) (bA_q qh_7 45 6 rfl)
theorem dL_law_494 : decode cL_law 494 = .ok (.goto 1752, 3) := op_167 (bA_q qh_7 46 167 rfl) (bA_q qh_7 47 6 rfl) (bA_q qh_7 48 216 rfl) rfl
theorem dL_law_497 : decode cL_law 497 = .ok (.aload_n 1, 1) := op_43 (bA_q qh_7 49 43 rfl)
theorem dL_law_498 : decode cL_law 498 = .ok (.aload_n 0, 1) := op_42 (bA_q qh_7 50 42 rfl)
theorem dL_law_499 : decode cL_law 499 = .ok (.iload 4, 2) := op_21 (bA_q qh_7 51 21 rfl) (bA_q qh_7 52 4 rfl)
theorem dL_law_501 : decode cL_law 501 = .ok (.iconst 1, 1) := op_4 (bA_q qh_7 53 4 rfl)
theorem dL_law_502 : decode cL_law 502 = .ok (.iadd, 1) := op_96 (bA_q qh_7 54 96 rfl)
theorem dL_law_503 : decode cL_law 503 = .ok (.iaload, 1) := op_46 (bA_q qh_7 55 46 rfl)
theorem dL_law_504 : decode cL_law 504 = .ok (.aload_n 0, 1) := op_42 (bA_q qh_7 56 42 rfl)
theorem dL_law_505 : decode cL_law 505 = .ok (.iload 4, 2) := op_21 (bA_q qh_7 57 21 rfl) (bA_q qh_7 58 4 rfl)
theorem dL_law_507 : decode cL_law 507 = .ok (.iconst 2, 1) := op_5 (bA_q qh_7 59 5 rfl)
theorem dL_law_508 : decode cL_law 508 = .ok (.iadd, 1) := op_96 (bA_q qh_7 60 96 rfl)
theorem dL_law_509 : decode cL_law 509 = .ok (.iaload, 1) := op_46 (bA_q qh_7 61 46 rfl)
theorem dL_law_510 : decode cL_law 510 = .ok (.ifCond .eq 7, 3) := op_153 (bA_q qh_7 62 153 rfl) (bA_q qh_7 63 0 rfl) (bA_q qh_7 64 7 rfl) rfl
theorem dL_law_513 : decode cL_law 513 = .ok (.iconst 1, 1) := op_4 (bA_q qh_8 1 4 rfl)
theorem dL_law_514 : decode cL_law 514 = .ok (.goto 4, 3) := op_167 (bA_q qh_8 2 167 rfl) (bA_q qh_8 3 0 rfl) (bA_q qh_8 4 4 rfl) rfl
theorem dL_law_517 : decode cL_law 517 = .ok (.iconst 0, 1) := op_3 (bA_q qh_8 5 3 rfl)
theorem dL_law_518 : decode cL_law 518 = .ok (.aload_n 3, 1) := op_45 (bA_q qh_8 6 45 rfl)
theorem dL_law_519 : decode cL_law 519 = .ok (.invokestatic 195, 3) := op_184 (bA_q qh_8 7 184 rfl) (bA_q qh_8 8 0 rfl) (bA_q qh_8 9 195 rfl) rfl
theorem dL_law_522 : decode cL_law 522 = .ok (.istore 5, 2) := op_54 (bA_q qh_8 10 54 rfl) (bA_q qh_8 11 5 rfl)
theorem dL_law_524 : decode cL_law 524 = .ok (.aload_n 2, 1) := op_44 (bA_q qh_8 12 44 rfl)
theorem dL_law_525 : decode cL_law 525 = .ok (.aload_n 0, 1) := op_42 (bA_q qh_8 13 42 rfl)
theorem dL_law_526 : decode cL_law 526 = .ok (.iload 4, 2) := op_21 (bA_q qh_8 14 21 rfl) (bA_q qh_8 15 4 rfl)
theorem dL_law_528 : decode cL_law 528 = .ok (.iconst 1, 1) := op_4 (bA_q qh_8 16 4 rfl)
theorem dL_law_529 : decode cL_law 529 = .ok (.iadd, 1) := op_96 (bA_q qh_8 17 96 rfl)
theorem dL_law_530 : decode cL_law 530 = .ok (.iaload, 1) := op_46 (bA_q qh_8 18 46 rfl)
theorem dL_law_531 : decode cL_law 531 = .ok (.aload_n 0, 1) := op_42 (bA_q qh_8 19 42 rfl)
theorem dL_law_532 : decode cL_law 532 = .ok (.iload 4, 2) := op_21 (bA_q qh_8 20 21 rfl) (bA_q qh_8 21 4 rfl)
theorem dL_law_534 : decode cL_law 534 = .ok (.iconst 2, 1) := op_5 (bA_q qh_8 22 5 rfl)
theorem dL_law_535 : decode cL_law 535 = .ok (.iadd, 1) := op_96 (bA_q qh_8 23 96 rfl)
theorem dL_law_536 : decode cL_law 536 = .ok (.iaload, 1) := op_46 (bA_q qh_8 24 46 rfl)
theorem dL_law_537 : decode cL_law 537 = .ok (.ifCond .eq 7, 3) := op_153 (bA_q qh_8 25 153 rfl) (bA_q qh_8 26 0 rfl) (bA_q qh_8 27 7 rfl) rfl
theorem dL_law_540 : decode cL_law 540 = .ok (.iconst 1, 1) := op_4 (bA_q qh_8 28 4 rfl)
theorem dL_law_541 : decode cL_law 541 = .ok (.goto 4, 3) := op_167 (bA_q qh_8 29 167 rfl) (bA_q qh_8 30 0 rfl) (bA_q qh_8 31 4 rfl) rfl
theorem dL_law_544 : decode cL_law 544 = .ok (.iconst 0, 1) := op_3 (bA_q qh_8 32 3 rfl)
theorem dL_law_545 : decode cL_law 545 = .ok (.invokevirtual 198, 3) := op_182 (bA_q qh_8 33 182 rfl) (bA_q qh_8 34 0 rfl) (bA_q qh_8 35 198 rfl) rfl
theorem dL_law_548 : decode cL_law 548 = .ok (.istore 6, 2) := op_54 (bA_q qh_8 36 54 rfl) (bA_q qh_8 37 6 rfl)
theorem dL_law_550 : decode cL_law 550 = .ok (.goto 1696, 3) := op_167 (bA_q qh_8 38 167 rfl) (bA_q qh_8 39 6 rfl) (bA_q qh_8 40 160 rfl) rfl
theorem dL_law_553 : decode cL_law 553 = .ok (.aload_n 1, 1) := op_43 (bA_q qh_8 41 43 rfl)
theorem dL_law_554 : decode cL_law 554 = .ok (.aload_n 0, 1) := op_42 (bA_q qh_8 42 42 rfl)
theorem dL_law_555 : decode cL_law 555 = .ok (.iload 4, 2) := op_21 (bA_q qh_8 43 21 rfl) (bA_q qh_8 44 4 rfl)
theorem dL_law_557 : decode cL_law 557 = .ok (.iconst 1, 1) := op_4 (bA_q qh_8 45 4 rfl)
theorem dL_law_558 : decode cL_law 558 = .ok (.iadd, 1) := op_96 (bA_q qh_8 46 96 rfl)
theorem dL_law_559 : decode cL_law 559 = .ok (.iaload, 1) := op_46 (bA_q qh_8 47 46 rfl)
theorem dL_law_560 : decode cL_law 560 = .ok (.aload_n 3, 1) := op_45 (bA_q qh_8 48 45 rfl)
theorem dL_law_561 : decode cL_law 561 = .ok (.invokestatic 199, 3) := op_184 (bA_q qh_8 49 184 rfl) (bA_q qh_8 50 0 rfl) (bA_q qh_8 51 199 rfl) rfl
theorem dL_law_564 : decode cL_law 564 = .ok (.istore 5, 2) := op_54 (bA_q qh_8 52 54 rfl) (bA_q qh_8 53 5 rfl)
theorem dL_law_566 : decode cL_law 566 = .ok (.aload_n 2, 1) := op_44 (bA_q qh_8 54 44 rfl)
theorem dL_law_567 : decode cL_law 567 = .ok (.aload_n 0, 1) := op_42 (bA_q qh_8 55 42 rfl)
theorem dL_law_568 : decode cL_law 568 = .ok (.iload 4, 2) := op_21 (bA_q qh_8 56 21 rfl) (bA_q qh_8 57 4 rfl)
theorem dL_law_570 : decode cL_law 570 = .ok (.iconst 1, 1) := op_4 (bA_q qh_8 58 4 rfl)
theorem dL_law_571 : decode cL_law 571 = .ok (.iadd, 1) := op_96 (bA_q qh_8 59 96 rfl)
theorem dL_law_572 : decode cL_law 572 = .ok (.iaload, 1) := op_46 (bA_q qh_8 60 46 rfl)
theorem dL_law_573 : decode cL_law 573 = .ok (.invokevirtual 202, 3) := op_182 (bA_q qh_8 61 182 rfl) (bA_q qh_8 62 0 rfl) (bA_q qh_8 63 202 rfl) rfl
theorem dL_law_576 : decode cL_law 576 = .ok (.astore 6, 2) := op_58 (bA_q qh_9 0 58 rfl) (bA_q qh_9 1 6 rfl)
theorem dL_law_578 : decode cL_law 578 = .ok (.goto 1668, 3) := op_167 (bA_q qh_9 2 167 rfl) (bA_q qh_9 3 6 rfl) (bA_q qh_9 4 132 rfl) rfl
theorem dL_law_581 : decode cL_law 581 = .ok (.aload_n 1, 1) := op_43 (bA_q qh_9 5 43 rfl)
theorem dL_law_582 : decode cL_law 582 = .ok (.aload_n 0, 1) := op_42 (bA_q qh_9 6 42 rfl)
theorem dL_law_583 : decode cL_law 583 = .ok (.iload 4, 2) := op_21 (bA_q qh_9 7 21 rfl) (bA_q qh_9 8 4 rfl)
theorem dL_law_585 : decode cL_law 585 = .ok (.iconst 1, 1) := op_4 (bA_q qh_9 9 4 rfl)
theorem dL_law_586 : decode cL_law 586 = .ok (.iadd, 1) := op_96 (bA_q qh_9 10 96 rfl)
theorem dL_law_587 : decode cL_law 587 = .ok (.iaload, 1) := op_46 (bA_q qh_9 11 46 rfl)
theorem dL_law_588 : decode cL_law 588 = .ok (.aload_n 0, 1) := op_42 (bA_q qh_9 12 42 rfl)
theorem dL_law_589 : decode cL_law 589 = .ok (.iload 4, 2) := op_21 (bA_q qh_9 13 21 rfl) (bA_q qh_9 14 4 rfl)
theorem dL_law_591 : decode cL_law 591 = .ok (.iconst 2, 1) := op_5 (bA_q qh_9 15 5 rfl)
theorem dL_law_592 : decode cL_law 592 = .ok (.iadd, 1) := op_96 (bA_q qh_9 16 96 rfl)
theorem dL_law_593 : decode cL_law 593 = .ok (.iaload, 1) := op_46 (bA_q qh_9 17 46 rfl)
theorem dL_law_594 : decode cL_law 594 = .ok (.aload_n 3, 1) := op_45 (bA_q qh_9 18 45 rfl)
theorem dL_law_595 : decode cL_law 595 = .ok (.invokestatic 203, 3) := op_184 (bA_q qh_9 19 184 rfl) (bA_q qh_9 20 0 rfl) (bA_q qh_9 21 203 rfl) rfl
theorem dL_law_598 : decode cL_law 598 = .ok (.istore 5, 2) := op_54 (bA_q qh_9 22 54 rfl) (bA_q qh_9 23 5 rfl)
theorem dL_law_600 : decode cL_law 600 = .ok (.aload_n 2, 1) := op_44 (bA_q qh_9 24 44 rfl)
theorem dL_law_601 : decode cL_law 601 = .ok (.aload_n 0, 1) := op_42 (bA_q qh_9 25 42 rfl)
theorem dL_law_602 : decode cL_law 602 = .ok (.iload 4, 2) := op_21 (bA_q qh_9 26 21 rfl) (bA_q qh_9 27 4 rfl)
theorem dL_law_604 : decode cL_law 604 = .ok (.iconst 1, 1) := op_4 (bA_q qh_9 28 4 rfl)
theorem dL_law_605 : decode cL_law 605 = .ok (.iadd, 1) := op_96 (bA_q qh_9 29 96 rfl)
theorem dL_law_606 : decode cL_law 606 = .ok (.iaload, 1) := op_46 (bA_q qh_9 30 46 rfl)
theorem dL_law_607 : decode cL_law 607 = .ok (.aload_n 0, 1) := op_42 (bA_q qh_9 31 42 rfl)
theorem dL_law_608 : decode cL_law 608 = .ok (.iload 4, 2) := op_21 (bA_q qh_9 32 21 rfl) (bA_q qh_9 33 4 rfl)
theorem dL_law_610 : decode cL_law 610 = .ok (.iconst 2, 1) := op_5 (bA_q qh_9 34 5 rfl)
theorem dL_law_611 : decode cL_law 611 = .ok (.iadd, 1) := op_96 (bA_q qh_9 35 96 rfl)
theorem dL_law_612 : decode cL_law 612 = .ok (.iaload, 1) := op_46 (bA_q qh_9 36 46 rfl)
theorem dL_law_613 : decode cL_law 613 = .ok (.invokevirtual 205, 3) := op_182 (bA_q qh_9 37 182 rfl) (bA_q qh_9 38 0 rfl) (bA_q qh_9 39 205 rfl) rfl
theorem dL_law_616 : decode cL_law 616 = .ok (.istore 6, 2) := op_54 (bA_q qh_9 40 54 rfl) (bA_q qh_9 41 6 rfl)
theorem dL_law_618 : decode cL_law 618 = .ok (.goto 1628, 3) := op_167 (bA_q qh_9 42 167 rfl) (bA_q qh_9 43 6 rfl) (bA_q qh_9 44 92 rfl) rfl
theorem dL_law_621 : decode cL_law 621 = .ok (.aload_n 1, 1) := op_43 (bA_q qh_9 45 43 rfl)
theorem dL_law_622 : decode cL_law 622 = .ok (.aload_n 0, 1) := op_42 (bA_q qh_9 46 42 rfl)
theorem dL_law_623 : decode cL_law 623 = .ok (.iload 4, 2) := op_21 (bA_q qh_9 47 21 rfl) (bA_q qh_9 48 4 rfl)
theorem dL_law_625 : decode cL_law 625 = .ok (.iconst 1, 1) := op_4 (bA_q qh_9 49 4 rfl)
theorem dL_law_626 : decode cL_law 626 = .ok (.iadd, 1) := op_96 (bA_q qh_9 50 96 rfl)
theorem dL_law_627 : decode cL_law 627 = .ok (.iaload, 1) := op_46 (bA_q qh_9 51 46 rfl)
theorem dL_law_628 : decode cL_law 628 = .ok (.aload_n 0, 1) := op_42 (bA_q qh_9 52 42 rfl)
theorem dL_law_629 : decode cL_law 629 = .ok (.iload 4, 2) := op_21 (bA_q qh_9 53 21 rfl) (bA_q qh_9 54 4 rfl)
theorem dL_law_631 : decode cL_law 631 = .ok (.iconst 2, 1) := op_5 (bA_q qh_9 55 5 rfl)
theorem dL_law_632 : decode cL_law 632 = .ok (.iadd, 1) := op_96 (bA_q qh_9 56 96 rfl)
theorem dL_law_633 : decode cL_law 633 = .ok (.iaload, 1) := op_46 (bA_q qh_9 57 46 rfl)
theorem dL_law_634 : decode cL_law 634 = .ok (.aload_n 0, 1) := op_42 (bA_q qh_9 58 42 rfl)
theorem dL_law_635 : decode cL_law 635 = .ok (.iload 4, 2) := op_21 (bA_q qh_9 59 21 rfl) (bA_q qh_9 60 4 rfl)
theorem dL_law_637 : decode cL_law 637 = .ok (.iconst 3, 1) := op_6 (bA_q qh_9 61 6 rfl)
theorem dL_law_638 : decode cL_law 638 = .ok (.iadd, 1) := op_96 (bA_q qh_9 62 96 rfl)
theorem dL_law_639 : decode cL_law 639 = .ok (.iaload, 1) := op_46 (bA_q qh_9 63 46 rfl)
theorem dL_law_640 : decode cL_law 640 = .ok (.aload_n 3, 1) := op_45 (bA_q qh_10 0 45 rfl)
theorem dL_law_641 : decode cL_law 641 = .ok (.invokestatic 206, 3) := op_184 (bA_q qh_10 1 184 rfl) (bA_q qh_10 2 0 rfl) (bA_q qh_10 3 206 rfl) rfl
theorem dL_law_644 : decode cL_law 644 = .ok (.istore 5, 2) := op_54 (bA_q qh_10 4 54 rfl) (bA_q qh_10 5 5 rfl)
theorem dL_law_646 : decode cL_law 646 = .ok (.aload_n 2, 1) := op_44 (bA_q qh_10 6 44 rfl)
theorem dL_law_647 : decode cL_law 647 = .ok (.aload_n 0, 1) := op_42 (bA_q qh_10 7 42 rfl)
theorem dL_law_648 : decode cL_law 648 = .ok (.iload 4, 2) := op_21 (bA_q qh_10 8 21 rfl) (bA_q qh_10 9 4 rfl)
theorem dL_law_650 : decode cL_law 650 = .ok (.iconst 1, 1) := op_4 (bA_q qh_10 10 4 rfl)
theorem dL_law_651 : decode cL_law 651 = .ok (.iadd, 1) := op_96 (bA_q qh_10 11 96 rfl)
theorem dL_law_652 : decode cL_law 652 = .ok (.iaload, 1) := op_46 (bA_q qh_10 12 46 rfl)
theorem dL_law_653 : decode cL_law 653 = .ok (.aload_n 0, 1) := op_42 (bA_q qh_10 13 42 rfl)
theorem dL_law_654 : decode cL_law 654 = .ok (.iload 4, 2) := op_21 (bA_q qh_10 14 21 rfl) (bA_q qh_10 15 4 rfl)
theorem dL_law_656 : decode cL_law 656 = .ok (.iconst 2, 1) := op_5 (bA_q qh_10 16 5 rfl)
theorem dL_law_657 : decode cL_law 657 = .ok (.iadd, 1) := op_96 (bA_q qh_10 17 96 rfl)
theorem dL_law_658 : decode cL_law 658 = .ok (.iaload, 1) := op_46 (bA_q qh_10 18 46 rfl)
theorem dL_law_659 : decode cL_law 659 = .ok (.aload_n 0, 1) := op_42 (bA_q qh_10 19 42 rfl)
theorem dL_law_660 : decode cL_law 660 = .ok (.iload 4, 2) := op_21 (bA_q qh_10 20 21 rfl) (bA_q qh_10 21 4 rfl)
theorem dL_law_662 : decode cL_law 662 = .ok (.iconst 3, 1) := op_6 (bA_q qh_10 22 6 rfl)
theorem dL_law_663 : decode cL_law 663 = .ok (.iadd, 1) := op_96 (bA_q qh_10 23 96 rfl)
theorem dL_law_664 : decode cL_law 664 = .ok (.iaload, 1) := op_46 (bA_q qh_10 24 46 rfl)
theorem dL_law_665 : decode cL_law 665 = .ok (.invokevirtual 208, 3) := op_182 (bA_q qh_10 25 182 rfl) (bA_q qh_10 26 0 rfl) (bA_q qh_10 27 208 rfl) rfl
theorem dL_law_668 : decode cL_law 668 = .ok (.istore 6, 2) := op_54 (bA_q qh_10 28 54 rfl) (bA_q qh_10 29 6 rfl)
theorem dL_law_670 : decode cL_law 670 = .ok (.goto 1576, 3) := op_167 (bA_q qh_10 30 167 rfl) (bA_q qh_10 31 6 rfl) (bA_q qh_10 32 40 rfl) rfl
theorem dL_law_673 : decode cL_law 673 = .ok (.aload_n 1, 1) := op_43 (bA_q qh_10 33 43 rfl)
theorem dL_law_674 : decode cL_law 674 = .ok (.aload_n 0, 1) := op_42 (bA_q qh_10 34 42 rfl)
theorem dL_law_675 : decode cL_law 675 = .ok (.iload 4, 2) := op_21 (bA_q qh_10 35 21 rfl) (bA_q qh_10 36 4 rfl)
theorem dL_law_677 : decode cL_law 677 = .ok (.iconst 1, 1) := op_4 (bA_q qh_10 37 4 rfl)
theorem dL_law_678 : decode cL_law 678 = .ok (.iadd, 1) := op_96 (bA_q qh_10 38 96 rfl)
theorem dL_law_679 : decode cL_law 679 = .ok (.iaload, 1) := op_46 (bA_q qh_10 39 46 rfl)
theorem dL_law_680 : decode cL_law 680 = .ok (.aload_n 0, 1) := op_42 (bA_q qh_10 40 42 rfl)
theorem dL_law_681 : decode cL_law 681 = .ok (.iload 4, 2) := op_21 (bA_q qh_10 41 21 rfl) (bA_q qh_10 42 4 rfl)
theorem dL_law_683 : decode cL_law 683 = .ok (.iconst 2, 1) := op_5 (bA_q qh_10 43 5 rfl)
theorem dL_law_684 : decode cL_law 684 = .ok (.iadd, 1) := op_96 (bA_q qh_10 44 96 rfl)
theorem dL_law_685 : decode cL_law 685 = .ok (.iaload, 1) := op_46 (bA_q qh_10 45 46 rfl)
theorem dL_law_686 : decode cL_law 686 = .ok (.aload_n 0, 1) := op_42 (bA_q qh_10 46 42 rfl)
theorem dL_law_687 : decode cL_law 687 = .ok (.iload 4, 2) := op_21 (bA_q qh_10 47 21 rfl) (bA_q qh_10 48 4 rfl)
theorem dL_law_689 : decode cL_law 689 = .ok (.iconst 3, 1) := op_6 (bA_q qh_10 49 6 rfl)
theorem dL_law_690 : decode cL_law 690 = .ok (.iadd, 1) := op_96 (bA_q qh_10 50 96 rfl)
theorem dL_law_691 : decode cL_law 691 = .ok (.iaload, 1) := op_46 (bA_q qh_10 51 46 rfl)
theorem dL_law_692 : decode cL_law 692 = .ok (.aload_n 0, 1) := op_42 (bA_q qh_10 52 42 rfl)
theorem dL_law_693 : decode cL_law 693 = .ok (.iload 4, 2) := op_21 (bA_q qh_10 53 21 rfl) (bA_q qh_10 54 4 rfl)
theorem dL_law_695 : decode cL_law 695 = .ok (.iconst 4, 1) := op_7 (bA_q qh_10 55 7 rfl)
theorem dL_law_696 : decode cL_law 696 = .ok (.iadd, 1) := op_96 (bA_q qh_10 56 96 rfl)
theorem dL_law_697 : decode cL_law 697 = .ok (.iaload, 1) := op_46 (bA_q qh_10 57 46 rfl)
theorem dL_law_698 : decode cL_law 698 = .ok (.aload_n 3, 1) := op_45 (bA_q qh_10 58 45 rfl)
theorem dL_law_699 : decode cL_law 699 = .ok (.invokestatic 209, 3) := op_184 (bA_q qh_10 59 184 rfl) (bA_q qh_10 60 0 rfl) (bA_q qh_10 61 209 rfl) rfl
theorem dL_law_702 : decode cL_law 702 = .ok (.istore 5, 2) := op_54 (bA_q qh_10 62 54 rfl) (bA_q qh_10 63 5 rfl)
theorem dL_law_704 : decode cL_law 704 = .ok (.aload_n 2, 1) := op_44 (bA_q qh_11 0 44 rfl)
theorem dL_law_705 : decode cL_law 705 = .ok (.aload_n 0, 1) := op_42 (bA_q qh_11 1 42 rfl)
theorem dL_law_706 : decode cL_law 706 = .ok (.iload 4, 2) := op_21 (bA_q qh_11 2 21 rfl) (bA_q qh_11 3 4 rfl)
theorem dL_law_708 : decode cL_law 708 = .ok (.iconst 1, 1) := op_4 (bA_q qh_11 4 4 rfl)
theorem dL_law_709 : decode cL_law 709 = .ok (.iadd, 1) := op_96 (bA_q qh_11 5 96 rfl)
theorem dL_law_710 : decode cL_law 710 = .ok (.iaload, 1) := op_46 (bA_q qh_11 6 46 rfl)
theorem dL_law_711 : decode cL_law 711 = .ok (.aload_n 0, 1) := op_42 (bA_q qh_11 7 42 rfl)
theorem dL_law_712 : decode cL_law 712 = .ok (.iload 4, 2) := op_21 (bA_q qh_11 8 21 rfl) (bA_q qh_11 9 4 rfl)
theorem dL_law_714 : decode cL_law 714 = .ok (.iconst 2, 1) := op_5 (bA_q qh_11 10 5 rfl)
theorem dL_law_715 : decode cL_law 715 = .ok (.iadd, 1) := op_96 (bA_q qh_11 11 96 rfl)
theorem dL_law_716 : decode cL_law 716 = .ok (.iaload, 1) := op_46 (bA_q qh_11 12 46 rfl)
theorem dL_law_717 : decode cL_law 717 = .ok (.aload_n 0, 1) := op_42 (bA_q qh_11 13 42 rfl)
theorem dL_law_718 : decode cL_law 718 = .ok (.iload 4, 2) := op_21 (bA_q qh_11 14 21 rfl) (bA_q qh_11 15 4 rfl)
end
/-! 69.lawd1.lean.txt -/
section
theorem dL_law_720 : decode cL_law 720 = .ok (.iconst 3, 1) := op_6 (bA_q qh_11 16 6 rfl)
theorem dL_law_721 : decode cL_law 721 = .ok (.iadd, 1) := op_96 (bA_q qh_11 17 96 rfl)
theorem dL_law_722 : decode cL_law 722 = .ok (.iaload, 1) := op_46 (bA_q qh_11 18 46 rfl)
theorem dL_law_723 : decode cL_law 723 = .ok (.aload_n 0, 1) := op_42 (bA_q qh_11 19 42 rfl)
theorem dL_law_724 : decode cL_law 724 = .ok (.iload 4, 2) := op_21 (bA_q qh_11 20 21 rfl) (bA_q qh_11 21 4 rfl)
theorem dL_law_726 : decode cL_law 726 = .ok (.iconst 4, 1) := op_7 (bA_q qh_11 22 7 rfl)
theorem dL_law_727 : decode cL_law 727 = .ok (.iadd, 1) := op_96 (bA_q qh_11 23 96 rfl)
theorem dL_law_728 : decode cL_law 728 = .ok (.iaload, 1) := op_46 (bA_q qh_11 24 46 rfl)
theorem dL_law_729 : decode cL_law 729 = .ok (.invokevirtual 212, 3) := op_182 (bA_q qh_11 25 182 rfl) (bA_q qh_11 26 0 rfl) (bA_q qh_11 27 212 rfl) rfl
theorem dL_law_732 : decode cL_law 732 = .ok (.istore 6, 2) := op_54 (bA_q qh_11 28 54 rfl) (bA_q qh_11 29 6 rfl)
theorem dL_law_734 : decode cL_law 734 = .ok (.goto 1512, 3) := op_167 (bA_q qh_11 30 167 rfl) (bA_q qh_11 31 5 rfl) (bA_q qh_11 32 232 rfl) rfl
theorem dL_law_737 : decode cL_law 737 = .ok (.aload_n 1, 1) := op_43 (bA_q qh_11 33 43 rfl)
theorem dL_law_738 : decode cL_law 738 = .ok (.aload_n 0, 1) := op_42 (bA_q qh_11 34 42 rfl)
theorem dL_law_739 : decode cL_law 739 = .ok (.iload 4, 2) := op_21 (bA_q qh_11 35 21 rfl) (bA_q qh_11 36 4 rfl)
theorem dL_law_741 : decode cL_law 741 = .ok (.iconst 1, 1) := op_4 (bA_q qh_11 37 4 rfl)
theorem dL_law_742 : decode cL_law 742 = .ok (.iadd, 1) := op_96 (bA_q qh_11 38 96 rfl)
theorem dL_law_743 : decode cL_law 743 = .ok (.iaload, 1) := op_46 (bA_q qh_11 39 46 rfl)
theorem dL_law_744 : decode cL_law 744 = .ok (.aload_n 0, 1) := op_42 (bA_q qh_11 40 42 rfl)
theorem dL_law_745 : decode cL_law 745 = .ok (.iload 4, 2) := op_21 (bA_q qh_11 41 21 rfl) (bA_q qh_11 42 4 rfl)
theorem dL_law_747 : decode cL_law 747 = .ok (.iconst 2, 1) := op_5 (bA_q qh_11 43 5 rfl)
theorem dL_law_748 : decode cL_law 748 = .ok (.iadd, 1) := op_96 (bA_q qh_11 44 96 rfl)
theorem dL_law_749 : decode cL_law 749 = .ok (.iaload, 1) := op_46 (bA_q qh_11 45 46 rfl)
theorem dL_law_750 : decode cL_law 750 = .ok (.aload_n 0, 1) := op_42 (bA_q qh_11 46 42 rfl)
theorem dL_law_751 : decode cL_law 751 = .ok (.iload 4, 2) := op_21 (bA_q qh_11 47 21 rfl) (bA_q qh_11 48 4 rfl)
theorem dL_law_753 : decode cL_law 753 = .ok (.iconst 3, 1) := op_6 (bA_q qh_11 49 6 rfl)
theorem dL_law_754 : decode cL_law 754 = .ok (.iadd, 1) := op_96 (bA_q qh_11 50 96 rfl)
theorem dL_law_755 : decode cL_law 755 = .ok (.iaload, 1) := op_46 (bA_q qh_11 51 46 rfl)
theorem dL_law_756 : decode cL_law 756 = .ok (.aload_n 0, 1) := op_42 (bA_q qh_11 52 42 rfl)
theorem dL_law_757 : decode cL_law 757 = .ok (.iload 4, 2) := op_21 (bA_q qh_11 53 21 rfl) (bA_q qh_11 54 4 rfl)
theorem dL_law_759 : decode cL_law 759 = .ok (.iconst 4, 1) := op_7 (bA_q qh_11 55 7 rfl)
theorem dL_law_760 : decode cL_law 760 = .ok (.iadd, 1) := op_96 (bA_q qh_11 56 96 rfl)
theorem dL_law_761 : decode cL_law 761 = .ok (.iaload, 1) := op_46 (bA_q qh_11 57 46 rfl)
theorem dL_law_762 : decode cL_law 762 = .ok (.aload_n 0, 1) := op_42 (bA_q qh_11 58 42 rfl)
theorem dL_law_763 : decode cL_law 763 = .ok (.iload 4, 2) := op_21 (bA_q qh_11 59 21 rfl) (bA_q qh_11 60 4 rfl)
theorem dL_law_765 : decode cL_law 765 = .ok (.iconst 5, 1) := op_8 (bA_q qh_11 61 8 rfl)
theorem dL_law_766 : decode cL_law 766 = .ok (.iadd, 1) := op_96 (bA_q qh_11 62 96 rfl)
theorem dL_law_767 : decode cL_law 767 = .ok (.iaload, 1) := op_46 (bA_q qh_11 63 46 rfl)
theorem dL_law_768 : decode cL_law 768 = .ok (.aload_n 3, 1) := op_45 (bA_q qh_12 0 45 rfl)
theorem dL_law_769 : decode cL_law 769 = .ok (.invokestatic 213, 3) := op_184 (bA_q qh_12 1 184 rfl) (bA_q qh_12 2 0 rfl) (bA_q qh_12 3 213 rfl) rfl
theorem dL_law_772 : decode cL_law 772 = .ok (.istore 5, 2) := op_54 (bA_q qh_12 4 54 rfl) (bA_q qh_12 5 5 rfl)
theorem dL_law_774 : decode cL_law 774 = .ok (.aload_n 2, 1) := op_44 (bA_q qh_12 6 44 rfl)
theorem dL_law_775 : decode cL_law 775 = .ok (.aload_n 0, 1) := op_42 (bA_q qh_12 7 42 rfl)
theorem dL_law_776 : decode cL_law 776 = .ok (.iload 4, 2) := op_21 (bA_q qh_12 8 21 rfl) (bA_q qh_12 9 4 rfl)
theorem dL_law_778 : decode cL_law 778 = .ok (.iconst 1, 1) := op_4 (bA_q qh_12 10 4 rfl)
theorem dL_law_779 : decode cL_law 779 = .ok (.iadd, 1) := op_96 (bA_q qh_12 11 96 rfl)
theorem dL_law_780 : decode cL_law 780 = .ok (.iaload, 1) := op_46 (bA_q qh_12 12 46 rfl)
theorem dL_law_781 : decode cL_law 781 = .ok (.aload_n 0, 1) := op_42 (bA_q qh_12 13 42 rfl)
theorem dL_law_782 : decode cL_law 782 = .ok (.iload 4, 2) := op_21 (bA_q qh_12 14 21 rfl) (bA_q qh_12 15 4 rfl)
theorem dL_law_784 : decode cL_law 784 = .ok (.iconst 2, 1) := op_5 (bA_q qh_12 16 5 rfl)
theorem dL_law_785 : decode cL_law 785 = .ok (.iadd, 1) := op_96 (bA_q qh_12 17 96 rfl)
theorem dL_law_786 : decode cL_law 786 = .ok (.iaload, 1) := op_46 (bA_q qh_12 18 46 rfl)
theorem dL_law_787 : decode cL_law 787 = .ok (.aload_n 0, 1) := op_42 (bA_q qh_12 19 42 rfl)
theorem dL_law_788 : decode cL_law 788 = .ok (.iload 4, 2) := op_21 (bA_q qh_12 20 21 rfl) (bA_q qh_12 21 4 rfl)
theorem dL_law_790 : decode cL_law 790 = .ok (.iconst 3, 1) := op_6 (bA_q qh_12 22 6 rfl)
theorem dL_law_791 : decode cL_law 791 = .ok (.iadd, 1) := op_96 (bA_q qh_12 23 96 rfl)
theorem dL_law_792 : decode cL_law 792 = .ok (.iaload, 1) := op_46 (bA_q qh_12 24 46 rfl)
theorem dL_law_793 : decode cL_law 793 = .ok (.aload_n 0, 1) := op_42 (bA_q qh_12 25 42 rfl)
theorem dL_law_794 : decode cL_law 794 = .ok (.iload 4, 2) := op_21 (bA_q qh_12 26 21 rfl) (bA_q qh_12 27 4 rfl)
theorem dL_law_796 : decode cL_law 796 = .ok (.iconst 4, 1) := op_7 (bA_q qh_12 28 7 rfl)
theorem dL_law_797 : decode cL_law 797 = .ok (.iadd, 1) := op_96 (bA_q qh_12 29 96 rfl)
theorem dL_law_798 : decode cL_law 798 = .ok (.iaload, 1) := op_46 (bA_q qh_12 30 46 rfl)
theorem dL_law_799 : decode cL_law 799 = .ok (.aload_n 0, 1) := op_42 (bA_q qh_12 31 42 rfl)
theorem dL_law_800 : decode cL_law 800 = .ok (.iload 4, 2) := op_21 (bA_q qh_12 32 21 rfl) (bA_q qh_12 33 4 rfl)
theorem dL_law_802 : decode cL_law 802 = .ok (.iconst 5, 1) := op_8 (bA_q qh_12 34 8 rfl)
theorem dL_law_803 : decode cL_law 803 = .ok (.iadd, 1) := op_96 (bA_q qh_12 35 96 rfl)
theorem dL_law_804 : decode cL_law 804 = .ok (.iaload, 1) := op_46 (bA_q qh_12 36 46 rfl)
theorem dL_law_805 : decode cL_law 805 = .ok (.invokevirtual 216, 3) := op_182 (bA_q qh_12 37 182 rfl) (bA_q qh_12 38 0 rfl) (bA_q qh_12 39 216 rfl) rfl
theorem dL_law_808 : decode cL_law 808 = .ok (.istore 6, 2) := op_54 (bA_q qh_12 40 54 rfl) (bA_q qh_12 41 6 rfl)
theorem dL_law_810 : decode cL_law 810 = .ok (.goto 1436, 3) := op_167 (bA_q qh_12 42 167 rfl) (bA_q qh_12 43 5 rfl) (bA_q qh_12 44 156 rfl) rfl
theorem dL_law_813 : decode cL_law 813 = .ok (.aload_n 1, 1) := op_43 (bA_q qh_12 45 43 rfl)
theorem dL_law_814 : decode cL_law 814 = .ok (.aload_n 0, 1) := op_42 (bA_q qh_12 46 42 rfl)
theorem dL_law_815 : decode cL_law 815 = .ok (.iload 4, 2) := op_21 (bA_q qh_12 47 21 rfl) (bA_q qh_12 48 4 rfl)
theorem dL_law_817 : decode cL_law 817 = .ok (.iconst 1, 1) := op_4 (bA_q qh_12 49 4 rfl)
theorem dL_law_818 : decode cL_law 818 = .ok (.iadd, 1) := op_96 (bA_q qh_12 50 96 rfl)
theorem dL_law_819 : decode cL_law 819 = .ok (.iaload, 1) := op_46 (bA_q qh_12 51 46 rfl)
theorem dL_law_820 : decode cL_law 820 = .ok (.aload_n 0, 1) := op_42 (bA_q qh_12 52 42 rfl)
theorem dL_law_821 : decode cL_law 821 = .ok (.iload 4, 2) := op_21 (bA_q qh_12 53 21 rfl) (bA_q qh_12 54 4 rfl)
theorem dL_law_823 : decode cL_law 823 = .ok (.iconst 2, 1) := op_5 (bA_q qh_12 55 5 rfl)
theorem dL_law_824 : decode cL_law 824 = .ok (.iadd, 1) := op_96 (bA_q qh_12 56 96 rfl)
theorem dL_law_825 : decode cL_law 825 = .ok (.iaload, 1) := op_46 (bA_q qh_12 57 46 rfl)
theorem dL_law_826 : decode cL_law 826 = .ok (.aload_n 0, 1) := op_42 (bA_q qh_12 58 42 rfl)
theorem dL_law_827 : decode cL_law 827 = .ok (.iload 4, 2) := op_21 (bA_q qh_12 59 21 rfl) (bA_q qh_12 60 4 rfl)
theorem dL_law_829 : decode cL_law 829 = .ok (.iconst 3, 1) := op_6 (bA_q qh_12 61 6 rfl)
theorem dL_law_830 : decode cL_law 830 = .ok (.iadd, 1) := op_96 (bA_q qh_12 62 96 rfl)
theorem dL_law_831 : decode cL_law 831 = .ok (.iaload, 1) := op_46 (bA_q qh_12 63 46 rfl)
theorem dL_law_832 : decode cL_law 832 = .ok (.aload_n 3, 1) := op_45 (bA_q qh_13 0 45 rfl)
theorem dL_law_833 : decode cL_law 833 = .ok (.invokestatic 217, 3) := op_184 (bA_q qh_13 1 184 rfl) (bA_q qh_13 2 0 rfl) (bA_q qh_13 3 217 rfl) rfl
theorem dL_law_836 : decode cL_law 836 = .ok (.istore 5, 2) := op_54 (bA_q qh_13 4 54 rfl) (bA_q qh_13 5 5 rfl)
theorem dL_law_838 : decode cL_law 838 = .ok (.aload_n 2, 1) := op_44 (bA_q qh_13 6 44 rfl)
theorem dL_law_839 : decode cL_law 839 = .ok (.aload_n 0, 1) := op_42 (bA_q qh_13 7 42 rfl)
theorem dL_law_840 : decode cL_law 840 = .ok (.iload 4, 2) := op_21 (bA_q qh_13 8 21 rfl) (bA_q qh_13 9 4 rfl)
theorem dL_law_842 : decode cL_law 842 = .ok (.iconst 1, 1) := op_4 (bA_q qh_13 10 4 rfl)
theorem dL_law_843 : decode cL_law 843 = .ok (.iadd, 1) := op_96 (bA_q qh_13 11 96 rfl)
theorem dL_law_844 : decode cL_law 844 = .ok (.iaload, 1) := op_46 (bA_q qh_13 12 46 rfl)
theorem dL_law_845 : decode cL_law 845 = .ok (.aload_n 0, 1) := op_42 (bA_q qh_13 13 42 rfl)
theorem dL_law_846 : decode cL_law 846 = .ok (.iload 4, 2) := op_21 (bA_q qh_13 14 21 rfl) (bA_q qh_13 15 4 rfl)
theorem dL_law_848 : decode cL_law 848 = .ok (.iconst 2, 1) := op_5 (bA_q qh_13 16 5 rfl)
theorem dL_law_849 : decode cL_law 849 = .ok (.iadd, 1) := op_96 (bA_q qh_13 17 96 rfl)
theorem dL_law_850 : decode cL_law 850 = .ok (.iaload, 1) := op_46 (bA_q qh_13 18 46 rfl)
theorem dL_law_851 : decode cL_law 851 = .ok (.aload_n 0, 1) := op_42 (bA_q qh_13 19 42 rfl)
theorem dL_law_852 : decode cL_law 852 = .ok (.iload 4, 2) := op_21 (bA_q qh_13 20 21 rfl) (bA_q qh_13 21 4 rfl)
theorem dL_law_854 : decode cL_law 854 = .ok (.iconst 3, 1) := op_6 (bA_q qh_13 22 6 rfl)
theorem dL_law_855 : decode cL_law 855 = .ok (.iadd, 1) := op_96 (bA_q qh_13 23 96 rfl)
theorem dL_law_856 : decode cL_law 856 = .ok (.iaload, 1) := op_46 (bA_q qh_13 24 46 rfl)
theorem dL_law_857 : decode cL_law 857 = .ok (.invokevirtual 219, 3) := op_182 (bA_q qh_13 25 182 rfl) (bA_q qh_13 26 0 rfl) (bA_q qh_13 27 219 rfl) rfl
theorem dL_law_860 : decode cL_law 860 = .ok (.istore 6, 2) := op_54 (bA_q qh_13 28 54 rfl) (bA_q qh_13 29 6 rfl)
theorem dL_law_862 : decode cL_law 862 = .ok (.goto 1384, 3) := op_167 (bA_q qh_13 30 167 rfl) (bA_q qh_13 31 5 rfl) (bA_q qh_13 32 104 rfl) rfl
theorem dL_law_865 : decode cL_law 865 = .ok (.aload_n 1, 1) := op_43 (bA_q qh_13 33 43 rfl)
theorem dL_law_866 : decode cL_law 866 = .ok (.aload_n 0, 1) := op_42 (bA_q qh_13 34 42 rfl)
theorem dL_law_867 : decode cL_law 867 = .ok (.iload 4, 2) := op_21 (bA_q qh_13 35 21 rfl) (bA_q qh_13 36 4 rfl)
theorem dL_law_869 : decode cL_law 869 = .ok (.iconst 1, 1) := op_4 (bA_q qh_13 37 4 rfl)
theorem dL_law_870 : decode cL_law 870 = .ok (.iadd, 1) := op_96 (bA_q qh_13 38 96 rfl)
theorem dL_law_871 : decode cL_law 871 = .ok (.iaload, 1) := op_46 (bA_q qh_13 39 46 rfl)
theorem dL_law_872 : decode cL_law 872 = .ok (.aload_n 0, 1) := op_42 (bA_q qh_13 40 42 rfl)
theorem dL_law_873 : decode cL_law 873 = .ok (.iload 4, 2) := op_21 (bA_q qh_13 41 21 rfl) (bA_q qh_13 42 4 rfl)
theorem dL_law_875 : decode cL_law 875 = .ok (.iconst 2, 1) := op_5 (bA_q qh_13 43 5 rfl)
theorem dL_law_876 : decode cL_law 876 = .ok (.iadd, 1) := op_96 (bA_q qh_13 44 96 rfl)
theorem dL_law_877 : decode cL_law 877 = .ok (.iaload, 1) := op_46 (bA_q qh_13 45 46 rfl)
theorem dL_law_878 : decode cL_law 878 = .ok (.aload_n 0, 1) := op_42 (bA_q qh_13 46 42 rfl)
theorem dL_law_879 : decode cL_law 879 = .ok (.iload 4, 2) := op_21 (bA_q qh_13 47 21 rfl) (bA_q qh_13 48 4 rfl)
theorem dL_law_881 : decode cL_law 881 = .ok (.iconst 3, 1) := op_6 (bA_q qh_13 49 6 rfl)
theorem dL_law_882 : decode cL_law 882 = .ok (.iadd, 1) := op_96 (bA_q qh_13 50 96 rfl)
theorem dL_law_883 : decode cL_law 883 = .ok (.iaload, 1) := op_46 (bA_q qh_13 51 46 rfl)
theorem dL_law_884 : decode cL_law 884 = .ok (.aload_n 0, 1) := op_42 (bA_q qh_13 52 42 rfl)
theorem dL_law_885 : decode cL_law 885 = .ok (.iload 4, 2) := op_21 (bA_q qh_13 53 21 rfl) (bA_q qh_13 54 4 rfl)
theorem dL_law_887 : decode cL_law 887 = .ok (.iconst 4, 1) := op_7 (bA_q qh_13 55 7 rfl)
theorem dL_law_888 : decode cL_law 888 = .ok (.iadd, 1) := op_96 (bA_q qh_13 56 96 rfl)
theorem dL_law_889 : decode cL_law 889 = .ok (.iaload, 1) := op_46 (bA_q qh_13 57 46 rfl)
theorem dL_law_890 : decode cL_law 890 = .ok (.aload_n 3, 1) := op_45 (bA_q qh_13 58 45 rfl)
theorem dL_law_891 : decode cL_law 891 = .ok (.invokestatic 220, 3) := op_184 (bA_q qh_13 59 184 rfl) (bA_q qh_13 60 0 rfl) (bA_q qh_13 61 220 rfl) rfl
theorem dL_law_894 : decode cL_law 894 = .ok (.istore 5, 2) := op_54 (bA_q qh_13 62 54 rfl) (bA_q qh_13 63 5 rfl)
theorem dL_law_896 : decode cL_law 896 = .ok (.aload_n 2, 1) := op_44 (bA_q qh_14 0 44 rfl)
theorem dL_law_897 : decode cL_law 897 = .ok (.aload_n 0, 1) := op_42 (bA_q qh_14 1 42 rfl)
theorem dL_law_898 : decode cL_law 898 = .ok (.iload 4, 2) := op_21 (bA_q qh_14 2 21 rfl) (bA_q qh_14 3 4 rfl)
theorem dL_law_900 : decode cL_law 900 = .ok (.iconst 1, 1) := op_4 (bA_q qh_14 4 4 rfl)
theorem dL_law_901 : decode cL_law 901 = .ok (.iadd, 1) := op_96 (bA_q qh_14 5 96 rfl)
theorem dL_law_902 : decode cL_law 902 = .ok (.iaload, 1) := op_46 (bA_q qh_14 6 46 rfl)
theorem dL_law_903 : decode cL_law 903 = .ok (.aload_n 0, 1) := op_42 (bA_q qh_14 7 42 rfl)
theorem dL_law_904 : decode cL_law 904 = .ok (.iload 4, 2) := op_21 (bA_q qh_14 8 21 rfl) (bA_q qh_14 9 4 rfl)
theorem dL_law_906 : decode cL_law 906 = .ok (.iconst 2, 1) := op_5 (bA_q qh_14 10 5 rfl)
theorem dL_law_907 : decode cL_law 907 = .ok (.iadd, 1) := op_96 (bA_q qh_14 11 96 rfl)
theorem dL_law_908 : decode cL_law 908 = .ok (.iaload, 1) := op_46 (bA_q qh_14 12 46 rfl)
theorem dL_law_909 : decode cL_law 909 = .ok (.aload_n 0, 1) := op_42 (bA_q qh_14 13 42 rfl)
theorem dL_law_910 : decode cL_law 910 = .ok (.iload 4, 2) := op_21 (bA_q qh_14 14 21 rfl) (bA_q qh_14 15 4 rfl)
theorem dL_law_912 : decode cL_law 912 = .ok (.iconst 3, 1) := op_6 (bA_q qh_14 16 6 rfl)
theorem dL_law_913 : decode cL_law 913 = .ok (.iadd, 1) := op_96 (bA_q qh_14 17 96 rfl)
theorem dL_law_914 : decode cL_law 914 = .ok (.iaload, 1) := op_46 (bA_q qh_14 18 46 rfl)
theorem dL_law_915 : decode cL_law 915 = .ok (.aload_n 0, 1) := op_42 (bA_q qh_14 19 42 rfl)
theorem dL_law_916 : decode cL_law 916 = .ok (.iload 4, 2) := op_21 (bA_q qh_14 20 21 rfl) (bA_q qh_14 21 4 rfl)
theorem dL_law_918 : decode cL_law 918 = .ok (.iconst 4, 1) := op_7 (bA_q qh_14 22 7 rfl)
theorem dL_law_919 : decode cL_law 919 = .ok (.iadd, 1) := op_96 (bA_q qh_14 23 96 rfl)
theorem dL_law_920 : decode cL_law 920 = .ok (.iaload, 1) := op_46 (bA_q qh_14 24 46 rfl)
theorem dL_law_921 : decode cL_law 921 = .ok (.invokevirtual 222, 3) := op_182 (bA_q qh_14 25 182 rfl) (bA_q qh_14 26 0 rfl) (bA_q qh_14 27 222 rfl) rfl
theorem dL_law_924 : decode cL_law 924 = .ok (.istore 6, 2) := op_54 (bA_q qh_14 28 54 rfl) (bA_q qh_14 29 6 rfl)
theorem dL_law_926 : decode cL_law 926 = .ok (.goto 1320, 3) := op_167 (bA_q qh_14 30 167 rfl) (bA_q qh_14 31 5 rfl) (bA_q qh_14 32 40 rfl) rfl
theorem dL_law_929 : decode cL_law 929 = .ok (.aload_n 1, 1) := op_43 (bA_q qh_14 33 43 rfl)
theorem dL_law_930 : decode cL_law 930 = .ok (.aload_n 0, 1) := op_42 (bA_q qh_14 34 42 rfl)
theorem dL_law_931 : decode cL_law 931 = .ok (.iload 4, 2) := op_21 (bA_q qh_14 35 21 rfl) (bA_q qh_14 36 4 rfl)
theorem dL_law_933 : decode cL_law 933 = .ok (.iconst 1, 1) := op_4 (bA_q qh_14 37 4 rfl)
theorem dL_law_934 : decode cL_law 934 = .ok (.iadd, 1) := op_96 (bA_q qh_14 38 96 rfl)
theorem dL_law_935 : decode cL_law 935 = .ok (.iaload, 1) := op_46 (bA_q qh_14 39 46 rfl)
theorem dL_law_936 : decode cL_law 936 = .ok (.aload_n 0, 1) := op_42 (bA_q qh_14 40 42 rfl)
theorem dL_law_937 : decode cL_law 937 = .ok (.iload 4, 2) := op_21 (bA_q qh_14 41 21 rfl) (bA_q qh_14 42 4 rfl)
theorem dL_law_939 : decode cL_law 939 = .ok (.iconst 2, 1) := op_5 (bA_q qh_14 43 5 rfl)
theorem dL_law_940 : decode cL_law 940 = .ok (.iadd, 1) := op_96 (bA_q qh_14 44 96 rfl)
theorem dL_law_941 : decode cL_law 941 = .ok (.iaload, 1) := op_46 (bA_q qh_14 45 46 rfl)
theorem dL_law_942 : decode cL_law 942 = .ok (.aload_n 0, 1) := op_42 (bA_q qh_14 46 42 rfl)
theorem dL_law_943 : decode cL_law 943 = .ok (.iload 4, 2) := op_21 (bA_q qh_14 47 21 rfl) (bA_q qh_14 48 4 rfl)
theorem dL_law_945 : decode cL_law 945 = .ok (.iconst 3, 1) := op_6 (bA_q qh_14 49 6 rfl)
theorem dL_law_946 : decode cL_law 946 = .ok (.iadd, 1) := op_96 (bA_q qh_14 50 96 rfl)
theorem dL_law_947 : decode cL_law 947 = .ok (.iaload, 1) := op_46 (bA_q qh_14 51 46 rfl)
theorem dL_law_948 : decode cL_law 948 = .ok (.aload_n 0, 1) := op_42 (bA_q qh_14 52 42 rfl)
theorem dL_law_949 : decode cL_law 949 = .ok (.iload 4, 2) := op_21 (bA_q qh_14 53 21 rfl) (bA_q qh_14 54 4 rfl)
theorem dL_law_951 : decode cL_law 951 = .ok (.iconst 4, 1) := op_7 (bA_q qh_14 55 7 rfl)
theorem dL_law_952 : decode cL_law 952 = .ok (.iadd, 1) := op_96 (bA_q qh_14 56 96 rfl)
theorem dL_law_953 : decode cL_law 953 = .ok (.iaload, 1) := op_46 (bA_q qh_14 57 46 rfl)
theorem dL_law_954 : decode cL_law 954 = .ok (.aload_n 0, 1) := op_42 (bA_q qh_14 58 42 rfl)
theorem dL_law_955 : decode cL_law 955 = .ok (.iload 4, 2) := op_21 (bA_q qh_14 59 21 rfl) (bA_q qh_14 60 4 rfl)
theorem dL_law_957 : decode cL_law 957 = .ok (.iconst 5, 1) := op_8 (bA_q qh_14 61 8 rfl)
theorem dL_law_958 : decode cL_law 958 = .ok (.iadd, 1) := op_96 (bA_q qh_14 62 96 rfl)
theorem dL_law_959 : decode cL_law 959 = .ok (.iaload, 1) := op_46 (bA_q qh_14 63 46 rfl)
theorem dL_law_960 : decode cL_law 960 = .ok (.aload_n 3, 1) := op_45 (bA_q qh_15 0 45 rfl)
theorem dL_law_961 : decode cL_law 961 = .ok (.invokestatic 223, 3) := op_184 (bA_q qh_15 1 184 rfl) (bA_q qh_15 2 0 rfl) (bA_q qh_15 3 223 rfl) rfl
theorem dL_law_964 : decode cL_law 964 = .ok (.istore 5, 2) := op_54 (bA_q qh_15 4 54 rfl) (bA_q qh_15 5 5 rfl)
theorem dL_law_966 : decode cL_law 966 = .ok (.aload_n 2, 1) := op_44 (bA_q qh_15 6 44 rfl)
theorem dL_law_967 : decode cL_law 967 = .ok (.aload_n 0, 1) := op_42 (bA_q qh_15 7 42 rfl)
theorem dL_law_968 : decode cL_law 968 = .ok (.iload 4, 2) := op_21 (bA_q qh_15 8 21 rfl) (bA_q qh_15 9 4 rfl)
theorem dL_law_970 : decode cL_law 970 = .ok (.iconst 1, 1) := op_4 (bA_q qh_15 10 4 rfl)
theorem dL_law_971 : decode cL_law 971 = .ok (.iadd, 1) := op_96 (bA_q qh_15 11 96 rfl)
theorem dL_law_972 : decode cL_law 972 = .ok (.iaload, 1) := op_46 (bA_q qh_15 12 46 rfl)
theorem dL_law_973 : decode cL_law 973 = .ok (.aload_n 0, 1) := op_42 (bA_q qh_15 13 42 rfl)
theorem dL_law_974 : decode cL_law 974 = .ok (.iload 4, 2) := op_21 (bA_q qh_15 14 21 rfl) (bA_q qh_15 15 4 rfl)
theorem dL_law_976 : decode cL_law 976 = .ok (.iconst 2, 1) := op_5 (bA_q qh_15 16 5 rfl)
theorem dL_law_977 : decode cL_law 977 = .ok (.iadd, 1) := op_96 (bA_q qh_15 17 96 rfl)
theorem dL_law_978 : decode cL_law 978 = .ok (.iaload, 1) := op_46 (bA_q qh_15 18 46 rfl)
theorem dL_law_979 : decode cL_law 979 = .ok (.aload_n 0, 1) := op_42 (bA_q qh_15 19 42 rfl)
theorem dL_law_980 : decode cL_law 980 = .ok (.iload 4, 2) := op_21 (bA_q qh_15 20 21 rfl) (bA_q qh_15 21 4 rfl)
theorem dL_law_982 : decode cL_law 982 = .ok (.iconst 3, 1) := op_6 (bA_q qh_15 22 6 rfl)
theorem dL_law_983 : decode cL_law 983 = .ok (.iadd, 1) := op_96 (bA_q qh_15 23 96 rfl)
theorem dL_law_984 : decode cL_law 984 = .ok (.iaload, 1) := op_46 (bA_q qh_15 24 46 rfl)
theorem dL_law_985 : decode cL_law 985 = .ok (.aload_n 0, 1) := op_42 (bA_q qh_15 25 42 rfl)
theorem dL_law_986 : decode cL_law 986 = .ok (.iload 4, 2) := op_21 (bA_q qh_15 26 21 rfl) (bA_q qh_15 27 4 rfl)
theorem dL_law_988 : decode cL_law 988 = .ok (.iconst 4, 1) := op_7 (bA_q qh_15 28 7 rfl)
theorem dL_law_989 : decode cL_law 989 = .ok (.iadd, 1) := op_96 (bA_q qh_15 29 96 rfl)
theorem dL_law_990 : decode cL_law 990 = .ok (.iaload, 1) := op_46 (bA_q qh_15 30 46 rfl)
theorem dL_law_991 : decode cL_law 991 = .ok (.aload_n 0, 1) := op_42 (bA_q qh_15 31 42 rfl)
theorem dL_law_992 : decode cL_law 992 = .ok (.iload 4, 2) := op_21 (bA_q qh_15 32 21 rfl) (bA_q qh_15 33 4 rfl)
theorem dL_law_994 : decode cL_law 994 = .ok (.iconst 5, 1) := op_8 (bA_q qh_15 34 8 rfl)
theorem dL_law_995 : decode cL_law 995 = .ok (.iadd, 1) := op_96 (bA_q qh_15 35 96 rfl)
theorem dL_law_996 : decode cL_law 996 = .ok (.iaload, 1) := op_46 (bA_q qh_15 36 46 rfl)
theorem dL_law_997 : decode cL_law 997 = .ok (.invokevirtual 225, 3) := op_182 (bA_q qh_15 37 182 rfl) (bA_q qh_15 38 0 rfl) (bA_q qh_15 39 225 rfl) rfl
theorem dL_law_1000 : decode cL_law 1000 = .ok (.istore 6, 2) := op_54 (bA_q qh_15 40 54 rfl) (bA_q qh_15 41 6 rfl)
theorem dL_law_1002 : decode cL_law 1002 = .ok (.goto 1244, 3) := op_167 (bA_q qh_15 42 167 rfl) (bA_q qh_15 43 4 rfl) (bA_q qh_15 44 220 rfl) rfl
theorem dL_law_1005 : decode cL_law 1005 = .ok (.aload_n 1, 1) := op_43 (bA_q qh_15 45 43 rfl)
theorem dL_law_1006 : decode cL_law 1006 = .ok (.aload_n 0, 1) := op_42 (bA_q qh_15 46 42 rfl)
theorem dL_law_1007 : decode cL_law 1007 = .ok (.iload 4, 2) := op_21 (bA_q qh_15 47 21 rfl) (bA_q qh_15 48 4 rfl)
theorem dL_law_1009 : decode cL_law 1009 = .ok (.iconst 1, 1) := op_4 (bA_q qh_15 49 4 rfl)
theorem dL_law_1010 : decode cL_law 1010 = .ok (.iadd, 1) := op_96 (bA_q qh_15 50 96 rfl)
theorem dL_law_1011 : decode cL_law 1011 = .ok (.iaload, 1) := op_46 (bA_q qh_15 51 46 rfl)
theorem dL_law_1012 : decode cL_law 1012 = .ok (.aload_n 0, 1) := op_42 (bA_q qh_15 52 42 rfl)
theorem dL_law_1013 : decode cL_law 1013 = .ok (.iload 4, 2) := op_21 (bA_q qh_15 53 21 rfl) (bA_q qh_15 54 4 rfl)
theorem dL_law_1015 : decode cL_law 1015 = .ok (.iconst 2, 1) := op_5 (bA_q qh_15 55 5 rfl)
theorem dL_law_1016 : decode cL_law 1016 = .ok (.iadd, 1) := op_96 (bA_q qh_15 56 96 rfl)
theorem dL_law_1017 : decode cL_law 1017 = .ok (.iaload, 1) := op_46 (bA_q qh_15 57 46 rfl)
theorem dL_law_1018 : decode cL_law 1018 = .ok (.aload_n 3, 1) := op_45 (bA_q qh_15 58 45 rfl)
theorem dL_law_1019 : decode cL_law 1019 = .ok (.invokestatic 226, 3) := op_184 (bA_q qh_15 59 184 rfl) (bA_q qh_15 60 0 rfl) (bA_q qh_15 61 226 rfl) rfl
theorem dL_law_1022 : decode cL_law 1022 = .ok (.istore 5, 2) := op_54 (bA_q qh_15 62 54 rfl) (bA_q qh_15 63 5 rfl)
theorem dL_law_1024 : decode cL_law 1024 = .ok (.aload_n 2, 1) := op_44 (bA_q qh_16 0 44 rfl)
theorem dL_law_1025 : decode cL_law 1025 = .ok (.aload_n 0, 1) := op_42 (bA_q qh_16 1 42 rfl)
theorem dL_law_1026 : decode cL_law 1026 = .ok (.iload 4, 2) := op_21 (bA_q qh_16 2 21 rfl) (bA_q qh_16 3 4 rfl)
theorem dL_law_1028 : decode cL_law 1028 = .ok (.iconst 1, 1) := op_4 (bA_q qh_16 4 4 rfl)
theorem dL_law_1029 : decode cL_law 1029 = .ok (.iadd, 1) := op_96 (bA_q qh_16 5 96 rfl)
theorem dL_law_1030 : decode cL_law 1030 = .ok (.iaload, 1) := op_46 (bA_q qh_16 6 46 rfl)
theorem dL_law_1031 : decode cL_law 1031 = .ok (.aload_n 0, 1) := op_42 (bA_q qh_16 7 42 rfl)
theorem dL_law_1032 : decode cL_law 1032 = .ok (.iload 4, 2) := op_21 (bA_q qh_16 8 21 rfl) (bA_q qh_16 9 4 rfl)
theorem dL_law_1034 : decode cL_law 1034 = .ok (.iconst 2, 1) := op_5 (bA_q qh_16 10 5 rfl)
theorem dL_law_1035 : decode cL_law 1035 = .ok (.iadd, 1) := op_96 (bA_q qh_16 11 96 rfl)
theorem dL_law_1036 : decode cL_law 1036 = .ok (.iaload, 1) := op_46 (bA_q qh_16 12 46 rfl)
theorem dL_law_1037 : decode cL_law 1037 = .ok (.invokevirtual 228, 3) := op_182 (bA_q qh_16 13 182 rfl) (bA_q qh_16 14 0 rfl) (bA_q qh_16 15 228 rfl) rfl
theorem dL_law_1040 : decode cL_law 1040 = .ok (.istore 6, 2) := op_54 (bA_q qh_16 16 54 rfl) (bA_q qh_16 17 6 rfl)
theorem dL_law_1042 : decode cL_law 1042 = .ok (.goto 1204, 3) := op_167 (bA_q qh_16 18 167 rfl) (bA_q qh_16 19 4 rfl) (bA_q qh_16 20 180 rfl) rfl
theorem dL_law_1045 : decode cL_law 1045 = .ok (.aload_n 1, 1) := op_43 (bA_q qh_16 21 43 rfl)
theorem dL_law_1046 : decode cL_law 1046 = .ok (.aload_n 0, 1) := op_42 (bA_q qh_16 22 42 rfl)
theorem dL_law_1047 : decode cL_law 1047 = .ok (.iload 4, 2) := op_21 (bA_q qh_16 23 21 rfl) (bA_q qh_16 24 4 rfl)
theorem dL_law_1049 : decode cL_law 1049 = .ok (.iconst 1, 1) := op_4 (bA_q qh_16 25 4 rfl)
theorem dL_law_1050 : decode cL_law 1050 = .ok (.iadd, 1) := op_96 (bA_q qh_16 26 96 rfl)
theorem dL_law_1051 : decode cL_law 1051 = .ok (.iaload, 1) := op_46 (bA_q qh_16 27 46 rfl)
theorem dL_law_1052 : decode cL_law 1052 = .ok (.aload_n 0, 1) := op_42 (bA_q qh_16 28 42 rfl)
theorem dL_law_1053 : decode cL_law 1053 = .ok (.iload 4, 2) := op_21 (bA_q qh_16 29 21 rfl) (bA_q qh_16 30 4 rfl)
theorem dL_law_1055 : decode cL_law 1055 = .ok (.iconst 2, 1) := op_5 (bA_q qh_16 31 5 rfl)
theorem dL_law_1056 : decode cL_law 1056 = .ok (.iadd, 1) := op_96 (bA_q qh_16 32 96 rfl)
theorem dL_law_1057 : decode cL_law 1057 = .ok (.iaload, 1) := op_46 (bA_q qh_16 33 46 rfl)
theorem dL_law_1058 : decode cL_law 1058 = .ok (.aload_n 3, 1) := op_45 (bA_q qh_16 34 45 rfl)
theorem dL_law_1059 : decode cL_law 1059 = .ok (.invokestatic 229, 3) := op_184 (bA_q qh_16 35 184 rfl) (bA_q qh_16 36 0 rfl) (bA_q qh_16 37 229 rfl) rfl
theorem dL_law_1062 : decode cL_law 1062 = .ok (.istore 5, 2) := op_54 (bA_q qh_16 38 54 rfl) (bA_q qh_16 39 5 rfl)
theorem dL_law_1064 : decode cL_law 1064 = .ok (.aload_n 2, 1) := op_44 (bA_q qh_16 40 44 rfl)
theorem dL_law_1065 : decode cL_law 1065 = .ok (.aload_n 0, 1) := op_42 (bA_q qh_16 41 42 rfl)
theorem dL_law_1066 : decode cL_law 1066 = .ok (.iload 4, 2) := op_21 (bA_q qh_16 42 21 rfl) (bA_q qh_16 43 4 rfl)
theorem dL_law_1068 : decode cL_law 1068 = .ok (.iconst 1, 1) := op_4 (bA_q qh_16 44 4 rfl)
theorem dL_law_1069 : decode cL_law 1069 = .ok (.iadd, 1) := op_96 (bA_q qh_16 45 96 rfl)
theorem dL_law_1070 : decode cL_law 1070 = .ok (.iaload, 1) := op_46 (bA_q qh_16 46 46 rfl)
theorem dL_law_1071 : decode cL_law 1071 = .ok (.aload_n 0, 1) := op_42 (bA_q qh_16 47 42 rfl)
theorem dL_law_1072 : decode cL_law 1072 = .ok (.iload 4, 2) := op_21 (bA_q qh_16 48 21 rfl) (bA_q qh_16 49 4 rfl)
theorem dL_law_1074 : decode cL_law 1074 = .ok (.iconst 2, 1) := op_5 (bA_q qh_16 50 5 rfl)
theorem dL_law_1075 : decode cL_law 1075 = .ok (.iadd, 1) := op_96 (bA_q qh_16 51 96 rfl)
theorem dL_law_1076 : decode cL_law 1076 = .ok (.iaload, 1) := op_46 (bA_q qh_16 52 46 rfl)
theorem dL_law_1077 : decode cL_law 1077 = .ok (.invokevirtual 231, 3) := op_182 (bA_q qh_16 53 182 rfl) (bA_q qh_16 54 0 rfl) (bA_q qh_16 55 231 rfl) rfl
theorem dL_law_1080 : decode cL_law 1080 = .ok (.istore 6, 2) := op_54 (bA_q qh_16 56 54 rfl) (bA_q qh_16 57 6 rfl)
theorem dL_law_1082 : decode cL_law 1082 = .ok (.goto 1164, 3) := op_167 (bA_q qh_16 58 167 rfl) (bA_q qh_16 59 4 rfl) (bA_q qh_16 60 140 rfl) rfl
theorem dL_law_1085 : decode cL_law 1085 = .ok (.aload_n 1, 1) := op_43 (bA_q qh_16 61 43 rfl)
theorem dL_law_1086 : decode cL_law 1086 = .ok (.aload_n 0, 1) := op_42 (bA_q qh_16 62 42 rfl)
theorem dL_law_1087 : decode cL_law 1087 = .ok (.iload 4, 2) := op_21 (bA_q qh_16 63 21 rfl) (bA_q qh_16 64 4 rfl)
theorem dL_law_1089 : decode cL_law 1089 = .ok (.iconst 1, 1) := op_4 (bA_q qh_17 1 4 rfl)
theorem dL_law_1090 : decode cL_law 1090 = .ok (.iadd, 1) := op_96 (bA_q qh_17 2 96 rfl)
theorem dL_law_1091 : decode cL_law 1091 = .ok (.iaload, 1) := op_46 (bA_q qh_17 3 46 rfl)
theorem dL_law_1092 : decode cL_law 1092 = .ok (.aload_n 0, 1) := op_42 (bA_q qh_17 4 42 rfl)
theorem dL_law_1093 : decode cL_law 1093 = .ok (.iload 4, 2) := op_21 (bA_q qh_17 5 21 rfl) (bA_q qh_17 6 4 rfl)
theorem dL_law_1095 : decode cL_law 1095 = .ok (.iconst 2, 1) := op_5 (bA_q qh_17 7 5 rfl)
theorem dL_law_1096 : decode cL_law 1096 = .ok (.iadd, 1) := op_96 (bA_q qh_17 8 96 rfl)
theorem dL_law_1097 : decode cL_law 1097 = .ok (.iaload, 1) := op_46 (bA_q qh_17 9 46 rfl)
theorem dL_law_1098 : decode cL_law 1098 = .ok (.aload_n 3, 1) := op_45 (bA_q qh_17 10 45 rfl)
theorem dL_law_1099 : decode cL_law 1099 = .ok (.invokestatic 232, 3) := op_184 (bA_q qh_17 11 184 rfl) (bA_q qh_17 12 0 rfl) (bA_q qh_17 13 232 rfl) rfl
theorem dL_law_1102 : decode cL_law 1102 = .ok (.istore 5, 2) := op_54 (bA_q qh_17 14 54 rfl) (bA_q qh_17 15 5 rfl)
theorem dL_law_1104 : decode cL_law 1104 = .ok (.aload_n 2, 1) := op_44 (bA_q qh_17 16 44 rfl)
theorem dL_law_1105 : decode cL_law 1105 = .ok (.aload_n 0, 1) := op_42 (bA_q qh_17 17 42 rfl)
theorem dL_law_1106 : decode cL_law 1106 = .ok (.iload 4, 2) := op_21 (bA_q qh_17 18 21 rfl) (bA_q qh_17 19 4 rfl)
theorem dL_law_1108 : decode cL_law 1108 = .ok (.iconst 1, 1) := op_4 (bA_q qh_17 20 4 rfl)
theorem dL_law_1109 : decode cL_law 1109 = .ok (.iadd, 1) := op_96 (bA_q qh_17 21 96 rfl)
theorem dL_law_1110 : decode cL_law 1110 = .ok (.iaload, 1) := op_46 (bA_q qh_17 22 46 rfl)
theorem dL_law_1111 : decode cL_law 1111 = .ok (.aload_n 0, 1) := op_42 (bA_q qh_17 23 42 rfl)
theorem dL_law_1112 : decode cL_law 1112 = .ok (.iload 4, 2) := op_21 (bA_q qh_17 24 21 rfl) (bA_q qh_17 25 4 rfl)
theorem dL_law_1114 : decode cL_law 1114 = .ok (.iconst 2, 1) := op_5 (bA_q qh_17 26 5 rfl)
theorem dL_law_1115 : decode cL_law 1115 = .ok (.iadd, 1) := op_96 (bA_q qh_17 27 96 rfl)
theorem dL_law_1116 : decode cL_law 1116 = .ok (.iaload, 1) := op_46 (bA_q qh_17 28 46 rfl)
theorem dL_law_1117 : decode cL_law 1117 = .ok (.invokevirtual 234, 3) := op_182 (bA_q qh_17 29 182 rfl) (bA_q qh_17 30 0 rfl) (bA_q qh_17 31 234 rfl) rfl
theorem dL_law_1120 : decode cL_law 1120 = .ok (.istore 6, 2) := op_54 (bA_q qh_17 32 54 rfl) (bA_q qh_17 33 6 rfl)
theorem dL_law_1122 : decode cL_law 1122 = .ok (.goto 1124, 3) := op_167 (bA_q qh_17 34 167 rfl) (bA_q qh_17 35 4 rfl) (bA_q qh_17 36 100 rfl) rfl
theorem dL_law_1125 : decode cL_law 1125 = .ok (.aload_n 1, 1) := op_43 (bA_q qh_17 37 43 rfl)
theorem dL_law_1126 : decode cL_law 1126 = .ok (.aload_n 0, 1) := op_42 (bA_q qh_17 38 42 rfl)
theorem dL_law_1127 : decode cL_law 1127 = .ok (.iload 4, 2) := op_21 (bA_q qh_17 39 21 rfl) (bA_q qh_17 40 4 rfl)
theorem dL_law_1129 : decode cL_law 1129 = .ok (.iconst 1, 1) := op_4 (bA_q qh_17 41 4 rfl)
theorem dL_law_1130 : decode cL_law 1130 = .ok (.iadd, 1) := op_96 (bA_q qh_17 42 96 rfl)
theorem dL_law_1131 : decode cL_law 1131 = .ok (.iaload, 1) := op_46 (bA_q qh_17 43 46 rfl)
theorem dL_law_1132 : decode cL_law 1132 = .ok (.aload_n 0, 1) := op_42 (bA_q qh_17 44 42 rfl)
theorem dL_law_1133 : decode cL_law 1133 = .ok (.iload 4, 2) := op_21 (bA_q qh_17 45 21 rfl) (bA_q qh_17 46 4 rfl)
theorem dL_law_1135 : decode cL_law 1135 = .ok (.iconst 2, 1) := op_5 (bA_q qh_17 47 5 rfl)
theorem dL_law_1136 : decode cL_law 1136 = .ok (.iadd, 1) := op_96 (bA_q qh_17 48 96 rfl)
theorem dL_law_1137 : decode cL_law 1137 = .ok (.iaload, 1) := op_46 (bA_q qh_17 49 46 rfl)
theorem dL_law_1138 : decode cL_law 1138 = .ok (.aload_n 3, 1) := op_45 (bA_q qh_17 50 45 rfl)
theorem dL_law_1139 : decode cL_law 1139 = .ok (.invokestatic 235, 3) := op_184 (bA_q qh_17 51 184 rfl) (bA_q qh_17 52 0 rfl) (bA_q qh_17 53 235 rfl) rfl
theorem dL_law_1142 : decode cL_law 1142 = .ok (.istore 5, 2) := op_54 (bA_q qh_17 54 54 rfl) (bA_q qh_17 55 5 rfl)
theorem dL_law_1144 : decode cL_law 1144 = .ok (.aload_n 2, 1) := op_44 (bA_q qh_17 56 44 rfl)
theorem dL_law_1145 : decode cL_law 1145 = .ok (.aload_n 0, 1) := op_42 (bA_q qh_17 57 42 rfl)
theorem dL_law_1146 : decode cL_law 1146 = .ok (.iload 4, 2) := op_21 (bA_q qh_17 58 21 rfl) (bA_q qh_17 59 4 rfl)
theorem dL_law_1148 : decode cL_law 1148 = .ok (.iconst 1, 1) := op_4 (bA_q qh_17 60 4 rfl)
theorem dL_law_1149 : decode cL_law 1149 = .ok (.iadd, 1) := op_96 (bA_q qh_17 61 96 rfl)
theorem dL_law_1150 : decode cL_law 1150 = .ok (.iaload, 1) := op_46 (bA_q qh_17 62 46 rfl)
theorem dL_law_1151 : decode cL_law 1151 = .ok (.aload_n 0, 1) := op_42 (bA_q qh_17 63 42 rfl)
theorem dL_law_1152 : decode cL_law 1152 = .ok (.iload 4, 2) := op_21 (bA_q qh_18 0 21 rfl) (bA_q qh_18 1 4 rfl)
theorem dL_law_1154 : decode cL_law 1154 = .ok (.iconst 2, 1) := op_5 (bA_q qh_18 2 5 rfl)
theorem dL_law_1155 : decode cL_law 1155 = .ok (.iadd, 1) := op_96 (bA_q qh_18 3 96 rfl)
theorem dL_law_1156 : decode cL_law 1156 = .ok (.iaload, 1) := op_46 (bA_q qh_18 4 46 rfl)
theorem dL_law_1157 : decode cL_law 1157 = .ok (.invokevirtual 237, 3) := op_182 (bA_q qh_18 5 182 rfl) (bA_q qh_18 6 0 rfl) (bA_q qh_18 7 237 rfl) rfl
theorem dL_law_1160 : decode cL_law 1160 = .ok (.istore 6, 2) := op_54 (bA_q qh_18 8 54 rfl) (bA_q qh_18 9 6 rfl)
theorem dL_law_1162 : decode cL_law 1162 = .ok (.goto 1084, 3) := op_167 (bA_q qh_18 10 167 rfl) (bA_q qh_18 11 4 rfl) (bA_q qh_18 12 60 rfl) rfl
theorem dL_law_1165 : decode cL_law 1165 = .ok (.aload_n 1, 1) := op_43 (bA_q qh_18 13 43 rfl)
theorem dL_law_1166 : decode cL_law 1166 = .ok (.aload_n 0, 1) := op_42 (bA_q qh_18 14 42 rfl)
theorem dL_law_1167 : decode cL_law 1167 = .ok (.iload 4, 2) := op_21 (bA_q qh_18 15 21 rfl) (bA_q qh_18 16 4 rfl)
theorem dL_law_1169 : decode cL_law 1169 = .ok (.iconst 1, 1) := op_4 (bA_q qh_18 17 4 rfl)
theorem dL_law_1170 : decode cL_law 1170 = .ok (.iadd, 1) := op_96 (bA_q qh_18 18 96 rfl)
theorem dL_law_1171 : decode cL_law 1171 = .ok (.iaload, 1) := op_46 (bA_q qh_18 19 46 rfl)
theorem dL_law_1172 : decode cL_law 1172 = .ok (.aload_n 0, 1) := op_42 (bA_q qh_18 20 42 rfl)
theorem dL_law_1173 : decode cL_law 1173 = .ok (.iload 4, 2) := op_21 (bA_q qh_18 21 21 rfl) (bA_q qh_18 22 4 rfl)
theorem dL_law_1175 : decode cL_law 1175 = .ok (.iconst 2, 1) := op_5 (bA_q qh_18 23 5 rfl)
theorem dL_law_1176 : decode cL_law 1176 = .ok (.iadd, 1) := op_96 (bA_q qh_18 24 96 rfl)
theorem dL_law_1177 : decode cL_law 1177 = .ok (.iaload, 1) := op_46 (bA_q qh_18 25 46 rfl)
theorem dL_law_1178 : decode cL_law 1178 = .ok (.aload_n 0, 1) := op_42 (bA_q qh_18 26 42 rfl)
theorem dL_law_1179 : decode cL_law 1179 = .ok (.iload 4, 2) := op_21 (bA_q qh_18 27 21 rfl) (bA_q qh_18 28 4 rfl)
theorem dL_law_1181 : decode cL_law 1181 = .ok (.iconst 3, 1) := op_6 (bA_q qh_18 29 6 rfl)
theorem dL_law_1182 : decode cL_law 1182 = .ok (.iadd, 1) := op_96 (bA_q qh_18 30 96 rfl)
theorem dL_law_1183 : decode cL_law 1183 = .ok (.iaload, 1) := op_46 (bA_q qh_18 31 46 rfl)
theorem dL_law_1184 : decode cL_law 1184 = .ok (.aload_n 3, 1) := op_45 (bA_q qh_18 32 45 rfl)
theorem dL_law_1185 : decode cL_law 1185 = .ok (.invokestatic 238, 3) := op_184 (bA_q qh_18 33 184 rfl) (bA_q qh_18 34 0 rfl) (bA_q qh_18 35 238 rfl) rfl
theorem dL_law_1188 : decode cL_law 1188 = .ok (.istore 5, 2) := op_54 (bA_q qh_18 36 54 rfl) (bA_q qh_18 37 5 rfl)
theorem dL_law_1190 : decode cL_law 1190 = .ok (.aload_n 2, 1) := op_44 (bA_q qh_18 38 44 rfl)
theorem dL_law_1191 : decode cL_law 1191 = .ok (.aload_n 0, 1) := op_42 (bA_q qh_18 39 42 rfl)
theorem dL_law_1192 : decode cL_law 1192 = .ok (.iload 4, 2) := op_21 (bA_q qh_18 40 21 rfl) (bA_q qh_18 41 4 rfl)
theorem dL_law_1194 : decode cL_law 1194 = .ok (.iconst 1, 1) := op_4 (bA_q qh_18 42 4 rfl)
theorem dL_law_1195 : decode cL_law 1195 = .ok (.iadd, 1) := op_96 (bA_q qh_18 43 96 rfl)
theorem dL_law_1196 : decode cL_law 1196 = .ok (.iaload, 1) := op_46 (bA_q qh_18 44 46 rfl)
end
/-! 69.lawd2.lean.txt -/
section
theorem dL_law_1197 : decode cL_law 1197 = .ok (.aload_n 0, 1) := op_42 (bA_q qh_18 45 42 rfl)
theorem dL_law_1198 : decode cL_law 1198 = .ok (.iload 4, 2) := op_21 (bA_q qh_18 46 21 rfl) (bA_q qh_18 47 4 rfl)
theorem dL_law_1200 : decode cL_law 1200 = .ok (.iconst 2, 1) := op_5 (bA_q qh_18 48 5 rfl)
theorem dL_law_1201 : decode cL_law 1201 = .ok (.iadd, 1) := op_96 (bA_q qh_18 49 96 rfl)
theorem dL_law_1202 : decode cL_law 1202 = .ok (.iaload, 1) := op_46 (bA_q qh_18 50 46 rfl)
theorem dL_law_1203 : decode cL_law 1203 = .ok (.aload_n 0, 1) := op_42 (bA_q qh_18 51 42 rfl)
theorem dL_law_1204 : decode cL_law 1204 = .ok (.iload 4, 2) := op_21 (bA_q qh_18 52 21 rfl) (bA_q qh_18 53 4 rfl)
theorem dL_law_1206 : decode cL_law 1206 = .ok (.iconst 3, 1) := op_6 (bA_q qh_18 54 6 rfl)
theorem dL_law_1207 : decode cL_law 1207 = .ok (.iadd, 1) := op_96 (bA_q qh_18 55 96 rfl)
theorem dL_law_1208 : decode cL_law 1208 = .ok (.iaload, 1) := op_46 (bA_q qh_18 56 46 rfl)
theorem dL_law_1209 : decode cL_law 1209 = .ok (.invokevirtual 240, 3) := op_182 (bA_q qh_18 57 182 rfl) (bA_q qh_18 58 0 rfl) (bA_q qh_18 59 240 rfl) rfl
theorem dL_law_1212 : decode cL_law 1212 = .ok (.istore 6, 2) := op_54 (bA_q qh_18 60 54 rfl) (bA_q qh_18 61 6 rfl)
theorem dL_law_1214 : decode cL_law 1214 = .ok (.goto 1032, 3) := op_167 (bA_q qh_18 62 167 rfl) (bA_q qh_18 63 4 rfl) (bA_q qh_18 64 8 rfl) rfl
theorem dL_law_1217 : decode cL_law 1217 = .ok (.aload_n 1, 1) := op_43 (bA_q qh_19 1 43 rfl)
theorem dL_law_1218 : decode cL_law 1218 = .ok (.aload_n 0, 1) := op_42 (bA_q qh_19 2 42 rfl)
theorem dL_law_1219 : decode cL_law 1219 = .ok (.iload 4, 2) := op_21 (bA_q qh_19 3 21 rfl) (bA_q qh_19 4 4 rfl)
theorem dL_law_1221 : decode cL_law 1221 = .ok (.iconst 1, 1) := op_4 (bA_q qh_19 5 4 rfl)
theorem dL_law_1222 : decode cL_law 1222 = .ok (.iadd, 1) := op_96 (bA_q qh_19 6 96 rfl)
theorem dL_law_1223 : decode cL_law 1223 = .ok (.iaload, 1) := op_46 (bA_q qh_19 7 46 rfl)
theorem dL_law_1224 : decode cL_law 1224 = .ok (.aload_n 0, 1) := op_42 (bA_q qh_19 8 42 rfl)
theorem dL_law_1225 : decode cL_law 1225 = .ok (.iload 4, 2) := op_21 (bA_q qh_19 9 21 rfl) (bA_q qh_19 10 4 rfl)
theorem dL_law_1227 : decode cL_law 1227 = .ok (.iconst 2, 1) := op_5 (bA_q qh_19 11 5 rfl)
theorem dL_law_1228 : decode cL_law 1228 = .ok (.iadd, 1) := op_96 (bA_q qh_19 12 96 rfl)
theorem dL_law_1229 : decode cL_law 1229 = .ok (.iaload, 1) := op_46 (bA_q qh_19 13 46 rfl)
theorem dL_law_1230 : decode cL_law 1230 = .ok (.aload_n 3, 1) := op_45 (bA_q qh_19 14 45 rfl)
theorem dL_law_1231 : decode cL_law 1231 = .ok (.invokestatic 241, 3) := op_184 (bA_q qh_19 15 184 rfl) (bA_q qh_19 16 0 rfl) (bA_q qh_19 17 241 rfl) rfl
theorem dL_law_1234 : decode cL_law 1234 = .ok (.istore 5, 2) := op_54 (bA_q qh_19 18 54 rfl) (bA_q qh_19 19 5 rfl)
theorem dL_law_1236 : decode cL_law 1236 = .ok (.aload_n 2, 1) := op_44 (bA_q qh_19 20 44 rfl)
theorem dL_law_1237 : decode cL_law 1237 = .ok (.aload_n 0, 1) := op_42 (bA_q qh_19 21 42 rfl)
theorem dL_law_1238 : decode cL_law 1238 = .ok (.iload 4, 2) := op_21 (bA_q qh_19 22 21 rfl) (bA_q qh_19 23 4 rfl)
theorem dL_law_1240 : decode cL_law 1240 = .ok (.iconst 1, 1) := op_4 (bA_q qh_19 24 4 rfl)
theorem dL_law_1241 : decode cL_law 1241 = .ok (.iadd, 1) := op_96 (bA_q qh_19 25 96 rfl)
theorem dL_law_1242 : decode cL_law 1242 = .ok (.iaload, 1) := op_46 (bA_q qh_19 26 46 rfl)
theorem dL_law_1243 : decode cL_law 1243 = .ok (.aload_n 0, 1) := op_42 (bA_q qh_19 27 42 rfl)
theorem dL_law_1244 : decode cL_law 1244 = .ok (.iload 4, 2) := op_21 (bA_q qh_19 28 21 rfl) (bA_q qh_19 29 4 rfl)
theorem dL_law_1246 : decode cL_law 1246 = .ok (.iconst 2, 1) := op_5 (bA_q qh_19 30 5 rfl)
theorem dL_law_1247 : decode cL_law 1247 = .ok (.iadd, 1) := op_96 (bA_q qh_19 31 96 rfl)
theorem dL_law_1248 : decode cL_law 1248 = .ok (.iaload, 1) := op_46 (bA_q qh_19 32 46 rfl)
theorem dL_law_1249 : decode cL_law 1249 = .ok (.invokevirtual 243, 3) := op_182 (bA_q qh_19 33 182 rfl) (bA_q qh_19 34 0 rfl) (bA_q qh_19 35 243 rfl) rfl
theorem dL_law_1252 : decode cL_law 1252 = .ok (.istore 6, 2) := op_54 (bA_q qh_19 36 54 rfl) (bA_q qh_19 37 6 rfl)
theorem dL_law_1254 : decode cL_law 1254 = .ok (.goto 992, 3) := op_167 (bA_q qh_19 38 167 rfl) (bA_q qh_19 39 3 rfl) (bA_q qh_19 40 224 rfl) rfl
theorem dL_law_1257 : decode cL_law 1257 = .ok (.aload_n 1, 1) := op_43 (bA_q qh_19 41 43 rfl)
theorem dL_law_1258 : decode cL_law 1258 = .ok (.aload_n 0, 1) := op_42 (bA_q qh_19 42 42 rfl)
theorem dL_law_1259 : decode cL_law 1259 = .ok (.iload 4, 2) := op_21 (bA_q qh_19 43 21 rfl) (bA_q qh_19 44 4 rfl)
theorem dL_law_1261 : decode cL_law 1261 = .ok (.iconst 1, 1) := op_4 (bA_q qh_19 45 4 rfl)
theorem dL_law_1262 : decode cL_law 1262 = .ok (.iadd, 1) := op_96 (bA_q qh_19 46 96 rfl)
theorem dL_law_1263 : decode cL_law 1263 = .ok (.iaload, 1) := op_46 (bA_q qh_19 47 46 rfl)
theorem dL_law_1264 : decode cL_law 1264 = .ok (.aload_n 3, 1) := op_45 (bA_q qh_19 48 45 rfl)
theorem dL_law_1265 : decode cL_law 1265 = .ok (.invokestatic 244, 3) := op_184 (bA_q qh_19 49 184 rfl) (bA_q qh_19 50 0 rfl) (bA_q qh_19 51 244 rfl) rfl
theorem dL_law_1268 : decode cL_law 1268 = .ok (.istore 5, 2) := op_54 (bA_q qh_19 52 54 rfl) (bA_q qh_19 53 5 rfl)
theorem dL_law_1270 : decode cL_law 1270 = .ok (.aload_n 2, 1) := op_44 (bA_q qh_19 54 44 rfl)
theorem dL_law_1271 : decode cL_law 1271 = .ok (.aload_n 0, 1) := op_42 (bA_q qh_19 55 42 rfl)
theorem dL_law_1272 : decode cL_law 1272 = .ok (.iload 4, 2) := op_21 (bA_q qh_19 56 21 rfl) (bA_q qh_19 57 4 rfl)
theorem dL_law_1274 : decode cL_law 1274 = .ok (.iconst 1, 1) := op_4 (bA_q qh_19 58 4 rfl)
theorem dL_law_1275 : decode cL_law 1275 = .ok (.iadd, 1) := op_96 (bA_q qh_19 59 96 rfl)
theorem dL_law_1276 : decode cL_law 1276 = .ok (.iaload, 1) := op_46 (bA_q qh_19 60 46 rfl)
theorem dL_law_1277 : decode cL_law 1277 = .ok (.invokevirtual 246, 3) := op_182 (bA_q qh_19 61 182 rfl) (bA_q qh_19 62 0 rfl) (bA_q qh_19 63 246 rfl) rfl
theorem dL_law_1280 : decode cL_law 1280 = .ok (.istore 6, 2) := op_54 (bA_q qh_20 0 54 rfl) (bA_q qh_20 1 6 rfl)
theorem dL_law_1282 : decode cL_law 1282 = .ok (.goto 964, 3) := op_167 (bA_q qh_20 2 167 rfl) (bA_q qh_20 3 3 rfl) (bA_q qh_20 4 196 rfl) rfl
theorem dL_law_1285 : decode cL_law 1285 = .ok (.aload_n 1, 1) := op_43 (bA_q qh_20 5 43 rfl)
theorem dL_law_1286 : decode cL_law 1286 = .ok (.aload_n 0, 1) := op_42 (bA_q qh_20 6 42 rfl)
theorem dL_law_1287 : decode cL_law 1287 = .ok (.iload 4, 2) := op_21 (bA_q qh_20 7 21 rfl) (bA_q qh_20 8 4 rfl)
theorem dL_law_1289 : decode cL_law 1289 = .ok (.iconst 1, 1) := op_4 (bA_q qh_20 9 4 rfl)
theorem dL_law_1290 : decode cL_law 1290 = .ok (.iadd, 1) := op_96 (bA_q qh_20 10 96 rfl)
theorem dL_law_1291 : decode cL_law 1291 = .ok (.iaload, 1) := op_46 (bA_q qh_20 11 46 rfl)
theorem dL_law_1292 : decode cL_law 1292 = .ok (.aload_n 3, 1) := op_45 (bA_q qh_20 12 45 rfl)
theorem dL_law_1293 : decode cL_law 1293 = .ok (.invokestatic 247, 3) := op_184 (bA_q qh_20 13 184 rfl) (bA_q qh_20 14 0 rfl) (bA_q qh_20 15 247 rfl) rfl
theorem dL_law_1296 : decode cL_law 1296 = .ok (.istore 5, 2) := op_54 (bA_q qh_20 16 54 rfl) (bA_q qh_20 17 5 rfl)
theorem dL_law_1298 : decode cL_law 1298 = .ok (.aload_n 2, 1) := op_44 (bA_q qh_20 18 44 rfl)
theorem dL_law_1299 : decode cL_law 1299 = .ok (.aload_n 0, 1) := op_42 (bA_q qh_20 19 42 rfl)
theorem dL_law_1300 : decode cL_law 1300 = .ok (.iload 4, 2) := op_21 (bA_q qh_20 20 21 rfl) (bA_q qh_20 21 4 rfl)
theorem dL_law_1302 : decode cL_law 1302 = .ok (.iconst 1, 1) := op_4 (bA_q qh_20 22 4 rfl)
theorem dL_law_1303 : decode cL_law 1303 = .ok (.iadd, 1) := op_96 (bA_q qh_20 23 96 rfl)
theorem dL_law_1304 : decode cL_law 1304 = .ok (.iaload, 1) := op_46 (bA_q qh_20 24 46 rfl)
theorem dL_law_1305 : decode cL_law 1305 = .ok (.invokevirtual 249, 3) := op_182 (bA_q qh_20 25 182 rfl) (bA_q qh_20 26 0 rfl) (bA_q qh_20 27 249 rfl) rfl
theorem dL_law_1308 : decode cL_law 1308 = .ok (.istore 6, 2) := op_54 (bA_q qh_20 28 54 rfl) (bA_q qh_20 29 6 rfl)
theorem dL_law_1310 : decode cL_law 1310 = .ok (.goto 936, 3) := op_167 (bA_q qh_20 30 167 rfl) (bA_q qh_20 31 3 rfl) (bA_q qh_20 32 168 rfl) rfl
theorem dL_law_1313 : decode cL_law 1313 = .ok (.aload_n 1, 1) := op_43 (bA_q qh_20 33 43 rfl)
theorem dL_law_1314 : decode cL_law 1314 = .ok (.aload_n 0, 1) := op_42 (bA_q qh_20 34 42 rfl)
theorem dL_law_1315 : decode cL_law 1315 = .ok (.iload 4, 2) := op_21 (bA_q qh_20 35 21 rfl) (bA_q qh_20 36 4 rfl)
theorem dL_law_1317 : decode cL_law 1317 = .ok (.iconst 1, 1) := op_4 (bA_q qh_20 37 4 rfl)
theorem dL_law_1318 : decode cL_law 1318 = .ok (.iadd, 1) := op_96 (bA_q qh_20 38 96 rfl)
theorem dL_law_1319 : decode cL_law 1319 = .ok (.iaload, 1) := op_46 (bA_q qh_20 39 46 rfl)
theorem dL_law_1320 : decode cL_law 1320 = .ok (.aload_n 3, 1) := op_45 (bA_q qh_20 40 45 rfl)
theorem dL_law_1321 : decode cL_law 1321 = .ok (.invokestatic 250, 3) := op_184 (bA_q qh_20 41 184 rfl) (bA_q qh_20 42 0 rfl) (bA_q qh_20 43 250 rfl) rfl
theorem dL_law_1324 : decode cL_law 1324 = .ok (.istore 5, 2) := op_54 (bA_q qh_20 44 54 rfl) (bA_q qh_20 45 5 rfl)
theorem dL_law_1326 : decode cL_law 1326 = .ok (.aload_n 2, 1) := op_44 (bA_q qh_20 46 44 rfl)
theorem dL_law_1327 : decode cL_law 1327 = .ok (.aload_n 0, 1) := op_42 (bA_q qh_20 47 42 rfl)
theorem dL_law_1328 : decode cL_law 1328 = .ok (.iload 4, 2) := op_21 (bA_q qh_20 48 21 rfl) (bA_q qh_20 49 4 rfl)
theorem dL_law_1330 : decode cL_law 1330 = .ok (.iconst 1, 1) := op_4 (bA_q qh_20 50 4 rfl)
theorem dL_law_1331 : decode cL_law 1331 = .ok (.iadd, 1) := op_96 (bA_q qh_20 51 96 rfl)
theorem dL_law_1332 : decode cL_law 1332 = .ok (.iaload, 1) := op_46 (bA_q qh_20 52 46 rfl)
theorem dL_law_1333 : decode cL_law 1333 = .ok (.invokevirtual 252, 3) := op_182 (bA_q qh_20 53 182 rfl) (bA_q qh_20 54 0 rfl) (bA_q qh_20 55 252 rfl) rfl
theorem dL_law_1336 : decode cL_law 1336 = .ok (.istore 6, 2) := op_54 (bA_q qh_20 56 54 rfl) (bA_q qh_20 57 6 rfl)
theorem dL_law_1338 : decode cL_law 1338 = .ok (.goto 908, 3) := op_167 (bA_q qh_20 58 167 rfl) (bA_q qh_20 59 3 rfl) (bA_q qh_20 60 140 rfl) rfl
theorem dL_law_1341 : decode cL_law 1341 = .ok (.aload_n 1, 1) := op_43 (bA_q qh_20 61 43 rfl)
theorem dL_law_1342 : decode cL_law 1342 = .ok (.aload_n 0, 1) := op_42 (bA_q qh_20 62 42 rfl)
theorem dL_law_1343 : decode cL_law 1343 = .ok (.iload 4, 2) := op_21 (bA_q qh_20 63 21 rfl) (bA_q qh_20 64 4 rfl)
theorem dL_law_1345 : decode cL_law 1345 = .ok (.iconst 1, 1) := op_4 (bA_q qh_21 1 4 rfl)
theorem dL_law_1346 : decode cL_law 1346 = .ok (.iadd, 1) := op_96 (bA_q qh_21 2 96 rfl)
theorem dL_law_1347 : decode cL_law 1347 = .ok (.iaload, 1) := op_46 (bA_q qh_21 3 46 rfl)
theorem dL_law_1348 : decode cL_law 1348 = .ok (.aload_n 3, 1) := op_45 (bA_q qh_21 4 45 rfl)
theorem dL_law_1349 : decode cL_law 1349 = .ok (.invokestatic 253, 3) := op_184 (bA_q qh_21 5 184 rfl) (bA_q qh_21 6 0 rfl) (bA_q qh_21 7 253 rfl) rfl
theorem dL_law_1352 : decode cL_law 1352 = .ok (.istore 5, 2) := op_54 (bA_q qh_21 8 54 rfl) (bA_q qh_21 9 5 rfl)
theorem dL_law_1354 : decode cL_law 1354 = .ok (.aload_n 2, 1) := op_44 (bA_q qh_21 10 44 rfl)
theorem dL_law_1355 : decode cL_law 1355 = .ok (.aload_n 0, 1) := op_42 (bA_q qh_21 11 42 rfl)
theorem dL_law_1356 : decode cL_law 1356 = .ok (.iload 4, 2) := op_21 (bA_q qh_21 12 21 rfl) (bA_q qh_21 13 4 rfl)
theorem dL_law_1358 : decode cL_law 1358 = .ok (.iconst 1, 1) := op_4 (bA_q qh_21 14 4 rfl)
theorem dL_law_1359 : decode cL_law 1359 = .ok (.iadd, 1) := op_96 (bA_q qh_21 15 96 rfl)
theorem dL_law_1360 : decode cL_law 1360 = .ok (.iaload, 1) := op_46 (bA_q qh_21 16 46 rfl)
theorem dL_law_1361 : decode cL_law 1361 = .ok (.invokevirtual 255, 3) := op_182 (bA_q qh_21 17 182 rfl) (bA_q qh_21 18 0 rfl) (bA_q qh_21 19 255 rfl) rfl
theorem dL_law_1364 : decode cL_law 1364 = .ok (.istore 6, 2) := op_54 (bA_q qh_21 20 54 rfl) (bA_q qh_21 21 6 rfl)
theorem dL_law_1366 : decode cL_law 1366 = .ok (.goto 880, 3) := op_167 (bA_q qh_21 22 167 rfl) (bA_q qh_21 23 3 rfl) (bA_q qh_21 24 112 rfl) rfl
theorem dL_law_1369 : decode cL_law 1369 = .ok (.aload_n 1, 1) := op_43 (bA_q qh_21 25 43 rfl)
theorem dL_law_1370 : decode cL_law 1370 = .ok (.aload_n 0, 1) := op_42 (bA_q qh_21 26 42 rfl)
theorem dL_law_1371 : decode cL_law 1371 = .ok (.iload 4, 2) := op_21 (bA_q qh_21 27 21 rfl) (bA_q qh_21 28 4 rfl)
theorem dL_law_1373 : decode cL_law 1373 = .ok (.iconst 1, 1) := op_4 (bA_q qh_21 29 4 rfl)
theorem dL_law_1374 : decode cL_law 1374 = .ok (.iadd, 1) := op_96 (bA_q qh_21 30 96 rfl)
theorem dL_law_1375 : decode cL_law 1375 = .ok (.iaload, 1) := op_46 (bA_q qh_21 31 46 rfl)
theorem dL_law_1376 : decode cL_law 1376 = .ok (.aload_n 0, 1) := op_42 (bA_q qh_21 32 42 rfl)
theorem dL_law_1377 : decode cL_law 1377 = .ok (.iload 4, 2) := op_21 (bA_q qh_21 33 21 rfl) (bA_q qh_21 34 4 rfl)
theorem dL_law_1379 : decode cL_law 1379 = .ok (.iconst 2, 1) := op_5 (bA_q qh_21 35 5 rfl)
theorem dL_law_1380 : decode cL_law 1380 = .ok (.iadd, 1) := op_96 (bA_q qh_21 36 96 rfl)
theorem dL_law_1381 : decode cL_law 1381 = .ok (.iaload, 1) := op_46 (bA_q qh_21 37 46 rfl)
theorem dL_law_1382 : decode cL_law 1382 = .ok (.aload_n 0, 1) := op_42 (bA_q qh_21 38 42 rfl)
theorem dL_law_1383 : decode cL_law 1383 = .ok (.iload 4, 2) := op_21 (bA_q qh_21 39 21 rfl) (bA_q qh_21 40 4 rfl)
theorem dL_law_1385 : decode cL_law 1385 = .ok (.iconst 3, 1) := op_6 (bA_q qh_21 41 6 rfl)
theorem dL_law_1386 : decode cL_law 1386 = .ok (.iadd, 1) := op_96 (bA_q qh_21 42 96 rfl)
theorem dL_law_1387 : decode cL_law 1387 = .ok (.iaload, 1) := op_46 (bA_q qh_21 43 46 rfl)
theorem dL_law_1388 : decode cL_law 1388 = .ok (.ifCond .eq 7, 3) := op_153 (bA_q qh_21 44 153 rfl) (bA_q qh_21 45 0 rfl) (bA_q qh_21 46 7 rfl) rfl
theorem dL_law_1391 : decode cL_law 1391 = .ok (.iconst 1, 1) := op_4 (bA_q qh_21 47 4 rfl)
theorem dL_law_1392 : decode cL_law 1392 = .ok (.goto 4, 3) := op_167 (bA_q qh_21 48 167 rfl) (bA_q qh_21 49 0 rfl) (bA_q qh_21 50 4 rfl) rfl
theorem dL_law_1395 : decode cL_law 1395 = .ok (.iconst 0, 1) := op_3 (bA_q qh_21 51 3 rfl)
theorem dL_law_1396 : decode cL_law 1396 = .ok (.aload_n 3, 1) := op_45 (bA_q qh_21 52 45 rfl)
theorem dL_law_1397 : decode cL_law 1397 = .ok (.invokestatic 256, 3) := op_184 (bA_q qh_21 53 184 rfl) (bA_q qh_21 54 1 rfl) (bA_q qh_21 55 0 rfl) rfl
theorem dL_law_1400 : decode cL_law 1400 = .ok (.istore 5, 2) := op_54 (bA_q qh_21 56 54 rfl) (bA_q qh_21 57 5 rfl)
theorem dL_law_1402 : decode cL_law 1402 = .ok (.aload_n 2, 1) := op_44 (bA_q qh_21 58 44 rfl)
theorem dL_law_1403 : decode cL_law 1403 = .ok (.aload_n 0, 1) := op_42 (bA_q qh_21 59 42 rfl)
theorem dL_law_1404 : decode cL_law 1404 = .ok (.iload 4, 2) := op_21 (bA_q qh_21 60 21 rfl) (bA_q qh_21 61 4 rfl)
theorem dL_law_1406 : decode cL_law 1406 = .ok (.iconst 1, 1) := op_4 (bA_q qh_21 62 4 rfl)
theorem dL_law_1407 : decode cL_law 1407 = .ok (.iadd, 1) := op_96 (bA_q qh_21 63 96 rfl)
theorem dL_law_1408 : decode cL_law 1408 = .ok (.iaload, 1) := op_46 (bA_q qh_22 0 46 rfl)
theorem dL_law_1409 : decode cL_law 1409 = .ok (.aload_n 0, 1) := op_42 (bA_q qh_22 1 42 rfl)
theorem dL_law_1410 : decode cL_law 1410 = .ok (.iload 4, 2) := op_21 (bA_q qh_22 2 21 rfl) (bA_q qh_22 3 4 rfl)
theorem dL_law_1412 : decode cL_law 1412 = .ok (.iconst 2, 1) := op_5 (bA_q qh_22 4 5 rfl)
theorem dL_law_1413 : decode cL_law 1413 = .ok (.iadd, 1) := op_96 (bA_q qh_22 5 96 rfl)
theorem dL_law_1414 : decode cL_law 1414 = .ok (.iaload, 1) := op_46 (bA_q qh_22 6 46 rfl)
theorem dL_law_1415 : decode cL_law 1415 = .ok (.aload_n 0, 1) := op_42 (bA_q qh_22 7 42 rfl)
theorem dL_law_1416 : decode cL_law 1416 = .ok (.iload 4, 2) := op_21 (bA_q qh_22 8 21 rfl) (bA_q qh_22 9 4 rfl)
theorem dL_law_1418 : decode cL_law 1418 = .ok (.iconst 3, 1) := op_6 (bA_q qh_22 10 6 rfl)
theorem dL_law_1419 : decode cL_law 1419 = .ok (.iadd, 1) := op_96 (bA_q qh_22 11 96 rfl)
theorem dL_law_1420 : decode cL_law 1420 = .ok (.iaload, 1) := op_46 (bA_q qh_22 12 46 rfl)
theorem dL_law_1421 : decode cL_law 1421 = .ok (.ifCond .eq 7, 3) := op_153 (bA_q qh_22 13 153 rfl) (bA_q qh_22 14 0 rfl) (bA_q qh_22 15 7 rfl) rfl
theorem dL_law_1424 : decode cL_law 1424 = .ok (.iconst 1, 1) := op_4 (bA_q qh_22 16 4 rfl)
theorem dL_law_1425 : decode cL_law 1425 = .ok (.goto 4, 3) := op_167 (bA_q qh_22 17 167 rfl) (bA_q qh_22 18 0 rfl) (bA_q qh_22 19 4 rfl) rfl
theorem dL_law_1428 : decode cL_law 1428 = .ok (.iconst 0, 1) := op_3 (bA_q qh_22 20 3 rfl)
theorem dL_law_1429 : decode cL_law 1429 = .ok (.invokevirtual 259, 3) := op_182 (bA_q qh_22 21 182 rfl) (bA_q qh_22 22 1 rfl) (bA_q qh_22 23 3 rfl) rfl
theorem dL_law_1432 : decode cL_law 1432 = .ok (.istore 6, 2) := op_54 (bA_q qh_22 24 54 rfl) (bA_q qh_22 25 6 rfl)
theorem dL_law_1434 : decode cL_law 1434 = .ok (.goto 812, 3) := op_167 (bA_q qh_22 26 167 rfl) (bA_q qh_22 27 3 rfl) (bA_q qh_22 28 44 rfl) rfl
theorem dL_law_1437 : decode cL_law 1437 = .ok (.aload_n 1, 1) := op_43 (bA_q qh_22 29 43 rfl)
theorem dL_law_1438 : decode cL_law 1438 = .ok (.aload_n 0, 1) := op_42 (bA_q qh_22 30 42 rfl)
theorem dL_law_1439 : decode cL_law 1439 = .ok (.iload 4, 2) := op_21 (bA_q qh_22 31 21 rfl) (bA_q qh_22 32 4 rfl)
theorem dL_law_1441 : decode cL_law 1441 = .ok (.iconst 1, 1) := op_4 (bA_q qh_22 33 4 rfl)
theorem dL_law_1442 : decode cL_law 1442 = .ok (.iadd, 1) := op_96 (bA_q qh_22 34 96 rfl)
theorem dL_law_1443 : decode cL_law 1443 = .ok (.iaload, 1) := op_46 (bA_q qh_22 35 46 rfl)
theorem dL_law_1444 : decode cL_law 1444 = .ok (.aload_n 0, 1) := op_42 (bA_q qh_22 36 42 rfl)
theorem dL_law_1445 : decode cL_law 1445 = .ok (.iload 4, 2) := op_21 (bA_q qh_22 37 21 rfl) (bA_q qh_22 38 4 rfl)
theorem dL_law_1447 : decode cL_law 1447 = .ok (.iconst 2, 1) := op_5 (bA_q qh_22 39 5 rfl)
theorem dL_law_1448 : decode cL_law 1448 = .ok (.iadd, 1) := op_96 (bA_q qh_22 40 96 rfl)
theorem dL_law_1449 : decode cL_law 1449 = .ok (.iaload, 1) := op_46 (bA_q qh_22 41 46 rfl)
theorem dL_law_1450 : decode cL_law 1450 = .ok (.aload_n 0, 1) := op_42 (bA_q qh_22 42 42 rfl)
theorem dL_law_1451 : decode cL_law 1451 = .ok (.iload 4, 2) := op_21 (bA_q qh_22 43 21 rfl) (bA_q qh_22 44 4 rfl)
theorem dL_law_1453 : decode cL_law 1453 = .ok (.iconst 3, 1) := op_6 (bA_q qh_22 45 6 rfl)
theorem dL_law_1454 : decode cL_law 1454 = .ok (.iadd, 1) := op_96 (bA_q qh_22 46 96 rfl)
theorem dL_law_1455 : decode cL_law 1455 = .ok (.iaload, 1) := op_46 (bA_q qh_22 47 46 rfl)
theorem dL_law_1456 : decode cL_law 1456 = .ok (.aload_n 3, 1) := op_45 (bA_q qh_22 48 45 rfl)
theorem dL_law_1457 : decode cL_law 1457 = .ok (.invokestatic 260, 3) := op_184 (bA_q qh_22 49 184 rfl) (bA_q qh_22 50 1 rfl) (bA_q qh_22 51 4 rfl) rfl
theorem dL_law_1460 : decode cL_law 1460 = .ok (.istore 5, 2) := op_54 (bA_q qh_22 52 54 rfl) (bA_q qh_22 53 5 rfl)
theorem dL_law_1462 : decode cL_law 1462 = .ok (.aload_n 2, 1) := op_44 (bA_q qh_22 54 44 rfl)
theorem dL_law_1463 : decode cL_law 1463 = .ok (.aload_n 0, 1) := op_42 (bA_q qh_22 55 42 rfl)
theorem dL_law_1464 : decode cL_law 1464 = .ok (.iload 4, 2) := op_21 (bA_q qh_22 56 21 rfl) (bA_q qh_22 57 4 rfl)
theorem dL_law_1466 : decode cL_law 1466 = .ok (.iconst 1, 1) := op_4 (bA_q qh_22 58 4 rfl)
theorem dL_law_1467 : decode cL_law 1467 = .ok (.iadd, 1) := op_96 (bA_q qh_22 59 96 rfl)
theorem dL_law_1468 : decode cL_law 1468 = .ok (.iaload, 1) := op_46 (bA_q qh_22 60 46 rfl)
theorem dL_law_1469 : decode cL_law 1469 = .ok (.aload_n 0, 1) := op_42 (bA_q qh_22 61 42 rfl)
theorem dL_law_1470 : decode cL_law 1470 = .ok (.iload 4, 2) := op_21 (bA_q qh_22 62 21 rfl) (bA_q qh_22 63 4 rfl)
theorem dL_law_1472 : decode cL_law 1472 = .ok (.iconst 2, 1) := op_5 (bA_q qh_23 0 5 rfl)
theorem dL_law_1473 : decode cL_law 1473 = .ok (.iadd, 1) := op_96 (bA_q qh_23 1 96 rfl)
theorem dL_law_1474 : decode cL_law 1474 = .ok (.iaload, 1) := op_46 (bA_q qh_23 2 46 rfl)
theorem dL_law_1475 : decode cL_law 1475 = .ok (.aload_n 0, 1) := op_42 (bA_q qh_23 3 42 rfl)
theorem dL_law_1476 : decode cL_law 1476 = .ok (.iload 4, 2) := op_21 (bA_q qh_23 4 21 rfl) (bA_q qh_23 5 4 rfl)
theorem dL_law_1478 : decode cL_law 1478 = .ok (.iconst 3, 1) := op_6 (bA_q qh_23 6 6 rfl)
theorem dL_law_1479 : decode cL_law 1479 = .ok (.iadd, 1) := op_96 (bA_q qh_23 7 96 rfl)
theorem dL_law_1480 : decode cL_law 1480 = .ok (.iaload, 1) := op_46 (bA_q qh_23 8 46 rfl)
theorem dL_law_1481 : decode cL_law 1481 = .ok (.invokevirtual 262, 3) := op_182 (bA_q qh_23 9 182 rfl) (bA_q qh_23 10 1 rfl) (bA_q qh_23 11 6 rfl) rfl
theorem dL_law_1484 : decode cL_law 1484 = .ok (.istore 6, 2) := op_54 (bA_q qh_23 12 54 rfl) (bA_q qh_23 13 6 rfl)
theorem dL_law_1486 : decode cL_law 1486 = .ok (.goto 760, 3) := op_167 (bA_q qh_23 14 167 rfl) (bA_q qh_23 15 2 rfl) (bA_q qh_23 16 248 rfl) rfl
theorem dL_law_1489 : decode cL_law 1489 = .ok (.aload_n 1, 1) := op_43 (bA_q qh_23 17 43 rfl)
theorem dL_law_1490 : decode cL_law 1490 = .ok (.aload_n 0, 1) := op_42 (bA_q qh_23 18 42 rfl)
theorem dL_law_1491 : decode cL_law 1491 = .ok (.iload 4, 2) := op_21 (bA_q qh_23 19 21 rfl) (bA_q qh_23 20 4 rfl)
theorem dL_law_1493 : decode cL_law 1493 = .ok (.iconst 1, 1) := op_4 (bA_q qh_23 21 4 rfl)
theorem dL_law_1494 : decode cL_law 1494 = .ok (.iadd, 1) := op_96 (bA_q qh_23 22 96 rfl)
theorem dL_law_1495 : decode cL_law 1495 = .ok (.iaload, 1) := op_46 (bA_q qh_23 23 46 rfl)
theorem dL_law_1496 : decode cL_law 1496 = .ok (.aload_n 3, 1) := op_45 (bA_q qh_23 24 45 rfl)
theorem dL_law_1497 : decode cL_law 1497 = .ok (.invokestatic 263, 3) := op_184 (bA_q qh_23 25 184 rfl) (bA_q qh_23 26 1 rfl) (bA_q qh_23 27 7 rfl) rfl
theorem dL_law_1500 : decode cL_law 1500 = .ok (.istore 5, 2) := op_54 (bA_q qh_23 28 54 rfl) (bA_q qh_23 29 5 rfl)
theorem dL_law_1502 : decode cL_law 1502 = .ok (.aload_n 2, 1) := op_44 (bA_q qh_23 30 44 rfl)
theorem dL_law_1503 : decode cL_law 1503 = .ok (.aload_n 0, 1) := op_42 (bA_q qh_23 31 42 rfl)
theorem dL_law_1504 : decode cL_law 1504 = .ok (.iload 4, 2) := op_21 (bA_q qh_23 32 21 rfl) (bA_q qh_23 33 4 rfl)
theorem dL_law_1506 : decode cL_law 1506 = .ok (.iconst 1, 1) := op_4 (bA_q qh_23 34 4 rfl)
theorem dL_law_1507 : decode cL_law 1507 = .ok (.iadd, 1) := op_96 (bA_q qh_23 35 96 rfl)
theorem dL_law_1508 : decode cL_law 1508 = .ok (.iaload, 1) := op_46 (bA_q qh_23 36 46 rfl)
theorem dL_law_1509 : decode cL_law 1509 = .ok (.invokevirtual 265, 3) := op_182 (bA_q qh_23 37 182 rfl) (bA_q qh_23 38 1 rfl) (bA_q qh_23 39 9 rfl) rfl
theorem dL_law_1512 : decode cL_law 1512 = .ok (.astore 6, 2) := op_58 (bA_q qh_23 40 58 rfl) (bA_q qh_23 41 6 rfl)
theorem dL_law_1514 : decode cL_law 1514 = .ok (.goto 732, 3) := op_167 (bA_q qh_23 42 167 rfl) (bA_q qh_23 43 2 rfl) (bA_q qh_23 44 220 rfl) rfl
theorem dL_law_1517 : decode cL_law 1517 = .ok (.aload_n 1, 1) := op_43 (bA_q qh_23 45 43 rfl)
theorem dL_law_1518 : decode cL_law 1518 = .ok (.aload_n 0, 1) := op_42 (bA_q qh_23 46 42 rfl)
theorem dL_law_1519 : decode cL_law 1519 = .ok (.iload 4, 2) := op_21 (bA_q qh_23 47 21 rfl) (bA_q qh_23 48 4 rfl)
theorem dL_law_1521 : decode cL_law 1521 = .ok (.iconst 1, 1) := op_4 (bA_q qh_23 49 4 rfl)
theorem dL_law_1522 : decode cL_law 1522 = .ok (.iadd, 1) := op_96 (bA_q qh_23 50 96 rfl)
theorem dL_law_1523 : decode cL_law 1523 = .ok (.iaload, 1) := op_46 (bA_q qh_23 51 46 rfl)
theorem dL_law_1524 : decode cL_law 1524 = .ok (.aload_n 0, 1) := op_42 (bA_q qh_23 52 42 rfl)
theorem dL_law_1525 : decode cL_law 1525 = .ok (.iload 4, 2) := op_21 (bA_q qh_23 53 21 rfl) (bA_q qh_23 54 4 rfl)
theorem dL_law_1527 : decode cL_law 1527 = .ok (.iconst 2, 1) := op_5 (bA_q qh_23 55 5 rfl)
theorem dL_law_1528 : decode cL_law 1528 = .ok (.iadd, 1) := op_96 (bA_q qh_23 56 96 rfl)
theorem dL_law_1529 : decode cL_law 1529 = .ok (.iaload, 1) := op_46 (bA_q qh_23 57 46 rfl)
theorem dL_law_1530 : decode cL_law 1530 = .ok (.aload_n 3, 1) := op_45 (bA_q qh_23 58 45 rfl)
theorem dL_law_1531 : decode cL_law 1531 = .ok (.invokestatic 266, 3) := op_184 (bA_q qh_23 59 184 rfl) (bA_q qh_23 60 1 rfl) (bA_q qh_23 61 10 rfl) rfl
theorem dL_law_1534 : decode cL_law 1534 = .ok (.istore 5, 2) := op_54 (bA_q qh_23 62 54 rfl) (bA_q qh_23 63 5 rfl)
theorem dL_law_1536 : decode cL_law 1536 = .ok (.aload_n 2, 1) := op_44 (bA_q qh_24 0 44 rfl)
theorem dL_law_1537 : decode cL_law 1537 = .ok (.aload_n 0, 1) := op_42 (bA_q qh_24 1 42 rfl)
theorem dL_law_1538 : decode cL_law 1538 = .ok (.iload 4, 2) := op_21 (bA_q qh_24 2 21 rfl) (bA_q qh_24 3 4 rfl)
theorem dL_law_1540 : decode cL_law 1540 = .ok (.iconst 1, 1) := op_4 (bA_q qh_24 4 4 rfl)
theorem dL_law_1541 : decode cL_law 1541 = .ok (.iadd, 1) := op_96 (bA_q qh_24 5 96 rfl)
theorem dL_law_1542 : decode cL_law 1542 = .ok (.iaload, 1) := op_46 (bA_q qh_24 6 46 rfl)
theorem dL_law_1543 : decode cL_law 1543 = .ok (.aload_n 0, 1) := op_42 (bA_q qh_24 7 42 rfl)
theorem dL_law_1544 : decode cL_law 1544 = .ok (.iload 4, 2) := op_21 (bA_q qh_24 8 21 rfl) (bA_q qh_24 9 4 rfl)
theorem dL_law_1546 : decode cL_law 1546 = .ok (.iconst 2, 1) := op_5 (bA_q qh_24 10 5 rfl)
theorem dL_law_1547 : decode cL_law 1547 = .ok (.iadd, 1) := op_96 (bA_q qh_24 11 96 rfl)
theorem dL_law_1548 : decode cL_law 1548 = .ok (.iaload, 1) := op_46 (bA_q qh_24 12 46 rfl)
theorem dL_law_1549 : decode cL_law 1549 = .ok (.invokevirtual 268, 3) := op_182 (bA_q qh_24 13 182 rfl) (bA_q qh_24 14 1 rfl) (bA_q qh_24 15 12 rfl) rfl
theorem dL_law_1552 : decode cL_law 1552 = .ok (.istore 6, 2) := op_54 (bA_q qh_24 16 54 rfl) (bA_q qh_24 17 6 rfl)
theorem dL_law_1554 : decode cL_law 1554 = .ok (.goto 692, 3) := op_167 (bA_q qh_24 18 167 rfl) (bA_q qh_24 19 2 rfl) (bA_q qh_24 20 180 rfl) rfl
theorem dL_law_1557 : decode cL_law 1557 = .ok (.aload_n 1, 1) := op_43 (bA_q qh_24 21 43 rfl)
theorem dL_law_1558 : decode cL_law 1558 = .ok (.aload_n 0, 1) := op_42 (bA_q qh_24 22 42 rfl)
theorem dL_law_1559 : decode cL_law 1559 = .ok (.iload 4, 2) := op_21 (bA_q qh_24 23 21 rfl) (bA_q qh_24 24 4 rfl)
theorem dL_law_1561 : decode cL_law 1561 = .ok (.iconst 1, 1) := op_4 (bA_q qh_24 25 4 rfl)
theorem dL_law_1562 : decode cL_law 1562 = .ok (.iadd, 1) := op_96 (bA_q qh_24 26 96 rfl)
theorem dL_law_1563 : decode cL_law 1563 = .ok (.iaload, 1) := op_46 (bA_q qh_24 27 46 rfl)
theorem dL_law_1564 : decode cL_law 1564 = .ok (.aload_n 0, 1) := op_42 (bA_q qh_24 28 42 rfl)
theorem dL_law_1565 : decode cL_law 1565 = .ok (.iload 4, 2) := op_21 (bA_q qh_24 29 21 rfl) (bA_q qh_24 30 4 rfl)
theorem dL_law_1567 : decode cL_law 1567 = .ok (.iconst 2, 1) := op_5 (bA_q qh_24 31 5 rfl)
theorem dL_law_1568 : decode cL_law 1568 = .ok (.iadd, 1) := op_96 (bA_q qh_24 32 96 rfl)
theorem dL_law_1569 : decode cL_law 1569 = .ok (.iaload, 1) := op_46 (bA_q qh_24 33 46 rfl)
theorem dL_law_1570 : decode cL_law 1570 = .ok (.aload_n 3, 1) := op_45 (bA_q qh_24 34 45 rfl)
theorem dL_law_1571 : decode cL_law 1571 = .ok (.invokestatic 269, 3) := op_184 (bA_q qh_24 35 184 rfl) (bA_q qh_24 36 1 rfl) (bA_q qh_24 37 13 rfl) rfl
theorem dL_law_1574 : decode cL_law 1574 = .ok (.istore 5, 2) := op_54 (bA_q qh_24 38 54 rfl) (bA_q qh_24 39 5 rfl)
theorem dL_law_1576 : decode cL_law 1576 = .ok (.aload_n 2, 1) := op_44 (bA_q qh_24 40 44 rfl)
theorem dL_law_1577 : decode cL_law 1577 = .ok (.aload_n 0, 1) := op_42 (bA_q qh_24 41 42 rfl)
theorem dL_law_1578 : decode cL_law 1578 = .ok (.iload 4, 2) := op_21 (bA_q qh_24 42 21 rfl) (bA_q qh_24 43 4 rfl)
theorem dL_law_1580 : decode cL_law 1580 = .ok (.iconst 1, 1) := op_4 (bA_q qh_24 44 4 rfl)
theorem dL_law_1581 : decode cL_law 1581 = .ok (.iadd, 1) := op_96 (bA_q qh_24 45 96 rfl)
theorem dL_law_1582 : decode cL_law 1582 = .ok (.iaload, 1) := op_46 (bA_q qh_24 46 46 rfl)
theorem dL_law_1583 : decode cL_law 1583 = .ok (.aload_n 0, 1) := op_42 (bA_q qh_24 47 42 rfl)
theorem dL_law_1584 : decode cL_law 1584 = .ok (.iload 4, 2) := op_21 (bA_q qh_24 48 21 rfl) (bA_q qh_24 49 4 rfl)
theorem dL_law_1586 : decode cL_law 1586 = .ok (.iconst 2, 1) := op_5 (bA_q qh_24 50 5 rfl)
theorem dL_law_1587 : decode cL_law 1587 = .ok (.iadd, 1) := op_96 (bA_q qh_24 51 96 rfl)
theorem dL_law_1588 : decode cL_law 1588 = .ok (.iaload, 1) := op_46 (bA_q qh_24 52 46 rfl)
theorem dL_law_1589 : decode cL_law 1589 = .ok (.invokevirtual 271, 3) := op_182 (bA_q qh_24 53 182 rfl) (bA_q qh_24 54 1 rfl) (bA_q qh_24 55 15 rfl) rfl
theorem dL_law_1592 : decode cL_law 1592 = .ok (.istore 6, 2) := op_54 (bA_q qh_24 56 54 rfl) (bA_q qh_24 57 6 rfl)
theorem dL_law_1594 : decode cL_law 1594 = .ok (.goto 652, 3) := op_167 (bA_q qh_24 58 167 rfl) (bA_q qh_24 59 2 rfl) (bA_q qh_24 60 140 rfl) rfl
theorem dL_law_1597 : decode cL_law 1597 = .ok (.aload_n 1, 1) := op_43 (bA_q qh_24 61 43 rfl)
theorem dL_law_1598 : decode cL_law 1598 = .ok (.aload_n 0, 1) := op_42 (bA_q qh_24 62 42 rfl)
theorem dL_law_1599 : decode cL_law 1599 = .ok (.iload 4, 2) := op_21 (bA_q qh_24 63 21 rfl) (bA_q qh_24 64 4 rfl)
theorem dL_law_1601 : decode cL_law 1601 = .ok (.iconst 1, 1) := op_4 (bA_q qh_25 1 4 rfl)
theorem dL_law_1602 : decode cL_law 1602 = .ok (.iadd, 1) := op_96 (bA_q qh_25 2 96 rfl)
theorem dL_law_1603 : decode cL_law 1603 = .ok (.iaload, 1) := op_46 (bA_q qh_25 3 46 rfl)
theorem dL_law_1604 : decode cL_law 1604 = .ok (.aload_n 0, 1) := op_42 (bA_q qh_25 4 42 rfl)
theorem dL_law_1605 : decode cL_law 1605 = .ok (.iload 4, 2) := op_21 (bA_q qh_25 5 21 rfl) (bA_q qh_25 6 4 rfl)
theorem dL_law_1607 : decode cL_law 1607 = .ok (.iconst 2, 1) := op_5 (bA_q qh_25 7 5 rfl)
theorem dL_law_1608 : decode cL_law 1608 = .ok (.iadd, 1) := op_96 (bA_q qh_25 8 96 rfl)
theorem dL_law_1609 : decode cL_law 1609 = .ok (.iaload, 1) := op_46 (bA_q qh_25 9 46 rfl)
theorem dL_law_1610 : decode cL_law 1610 = .ok (.aload_n 3, 1) := op_45 (bA_q qh_25 10 45 rfl)
theorem dL_law_1611 : decode cL_law 1611 = .ok (.invokestatic 272, 3) := op_184 (bA_q qh_25 11 184 rfl) (bA_q qh_25 12 1 rfl) (bA_q qh_25 13 16 rfl) rfl
theorem dL_law_1614 : decode cL_law 1614 = .ok (.istore 5, 2) := op_54 (bA_q qh_25 14 54 rfl) (bA_q qh_25 15 5 rfl)
theorem dL_law_1616 : decode cL_law 1616 = .ok (.aload_n 2, 1) := op_44 (bA_q qh_25 16 44 rfl)
theorem dL_law_1617 : decode cL_law 1617 = .ok (.aload_n 0, 1) := op_42 (bA_q qh_25 17 42 rfl)
theorem dL_law_1618 : decode cL_law 1618 = .ok (.iload 4, 2) := op_21 (bA_q qh_25 18 21 rfl) (bA_q qh_25 19 4 rfl)
theorem dL_law_1620 : decode cL_law 1620 = .ok (.iconst 1, 1) := op_4 (bA_q qh_25 20 4 rfl)
theorem dL_law_1621 : decode cL_law 1621 = .ok (.iadd, 1) := op_96 (bA_q qh_25 21 96 rfl)
theorem dL_law_1622 : decode cL_law 1622 = .ok (.iaload, 1) := op_46 (bA_q qh_25 22 46 rfl)
theorem dL_law_1623 : decode cL_law 1623 = .ok (.aload_n 0, 1) := op_42 (bA_q qh_25 23 42 rfl)
theorem dL_law_1624 : decode cL_law 1624 = .ok (.iload 4, 2) := op_21 (bA_q qh_25 24 21 rfl) (bA_q qh_25 25 4 rfl)
theorem dL_law_1626 : decode cL_law 1626 = .ok (.iconst 2, 1) := op_5 (bA_q qh_25 26 5 rfl)
theorem dL_law_1627 : decode cL_law 1627 = .ok (.iadd, 1) := op_96 (bA_q qh_25 27 96 rfl)
theorem dL_law_1628 : decode cL_law 1628 = .ok (.iaload, 1) := op_46 (bA_q qh_25 28 46 rfl)
theorem dL_law_1629 : decode cL_law 1629 = .ok (.invokevirtual 274, 3) := op_182 (bA_q qh_25 29 182 rfl) (bA_q qh_25 30 1 rfl) (bA_q qh_25 31 18 rfl) rfl
theorem dL_law_1632 : decode cL_law 1632 = .ok (.istore 6, 2) := op_54 (bA_q qh_25 32 54 rfl) (bA_q qh_25 33 6 rfl)
theorem dL_law_1634 : decode cL_law 1634 = .ok (.goto 612, 3) := op_167 (bA_q qh_25 34 167 rfl) (bA_q qh_25 35 2 rfl) (bA_q qh_25 36 100 rfl) rfl
theorem dL_law_1637 : decode cL_law 1637 = .ok (.aload_n 1, 1) := op_43 (bA_q qh_25 37 43 rfl)
theorem dL_law_1638 : decode cL_law 1638 = .ok (.aload_n 0, 1) := op_42 (bA_q qh_25 38 42 rfl)
theorem dL_law_1639 : decode cL_law 1639 = .ok (.iload 4, 2) := op_21 (bA_q qh_25 39 21 rfl) (bA_q qh_25 40 4 rfl)
theorem dL_law_1641 : decode cL_law 1641 = .ok (.iconst 1, 1) := op_4 (bA_q qh_25 41 4 rfl)
theorem dL_law_1642 : decode cL_law 1642 = .ok (.iadd, 1) := op_96 (bA_q qh_25 42 96 rfl)
theorem dL_law_1643 : decode cL_law 1643 = .ok (.iaload, 1) := op_46 (bA_q qh_25 43 46 rfl)
theorem dL_law_1644 : decode cL_law 1644 = .ok (.aload_n 0, 1) := op_42 (bA_q qh_25 44 42 rfl)
theorem dL_law_1645 : decode cL_law 1645 = .ok (.iload 4, 2) := op_21 (bA_q qh_25 45 21 rfl) (bA_q qh_25 46 4 rfl)
theorem dL_law_1647 : decode cL_law 1647 = .ok (.iconst 2, 1) := op_5 (bA_q qh_25 47 5 rfl)
theorem dL_law_1648 : decode cL_law 1648 = .ok (.iadd, 1) := op_96 (bA_q qh_25 48 96 rfl)
theorem dL_law_1649 : decode cL_law 1649 = .ok (.iaload, 1) := op_46 (bA_q qh_25 49 46 rfl)
theorem dL_law_1650 : decode cL_law 1650 = .ok (.aload_n 0, 1) := op_42 (bA_q qh_25 50 42 rfl)
theorem dL_law_1651 : decode cL_law 1651 = .ok (.iload 4, 2) := op_21 (bA_q qh_25 51 21 rfl) (bA_q qh_25 52 4 rfl)
theorem dL_law_1653 : decode cL_law 1653 = .ok (.iconst 3, 1) := op_6 (bA_q qh_25 53 6 rfl)
theorem dL_law_1654 : decode cL_law 1654 = .ok (.iadd, 1) := op_96 (bA_q qh_25 54 96 rfl)
theorem dL_law_1655 : decode cL_law 1655 = .ok (.iaload, 1) := op_46 (bA_q qh_25 55 46 rfl)
theorem dL_law_1656 : decode cL_law 1656 = .ok (.ifCond .eq 7, 3) := op_153 (bA_q qh_25 56 153 rfl) (bA_q qh_25 57 0 rfl) (bA_q qh_25 58 7 rfl) rfl
theorem dL_law_1659 : decode cL_law 1659 = .ok (.iconst 1, 1) := op_4 (bA_q qh_25 59 4 rfl)
theorem dL_law_1660 : decode cL_law 1660 = .ok (.goto 4, 3) := op_167 (bA_q qh_25 60 167 rfl) (bA_q qh_25 61 0 rfl) (bA_q qh_25 62 4 rfl) rfl
theorem dL_law_1663 : decode cL_law 1663 = .ok (.iconst 0, 1) := op_3 (bA_q qh_25 63 3 rfl)
theorem dL_law_1664 : decode cL_law 1664 = .ok (.aload_n 3, 1) := op_45 (bA_q qh_26 0 45 rfl)
theorem dL_law_1665 : decode cL_law 1665 = .ok (.invokestatic 275, 3) := op_184 (bA_q qh_26 1 184 rfl) (bA_q qh_26 2 1 rfl) (bA_q qh_26 3 19 rfl) rfl
theorem dL_law_1668 : decode cL_law 1668 = .ok (.istore 5, 2) := op_54 (bA_q qh_26 4 54 rfl) (bA_q qh_26 5 5 rfl)
theorem dL_law_1670 : decode cL_law 1670 = .ok (.aload_n 2, 1) := op_44 (bA_q qh_26 6 44 rfl)
theorem dL_law_1671 : decode cL_law 1671 = .ok (.aload_n 0, 1) := op_42 (bA_q qh_26 7 42 rfl)
theorem dL_law_1672 : decode cL_law 1672 = .ok (.iload 4, 2) := op_21 (bA_q qh_26 8 21 rfl) (bA_q qh_26 9 4 rfl)
theorem dL_law_1674 : decode cL_law 1674 = .ok (.iconst 1, 1) := op_4 (bA_q qh_26 10 4 rfl)
theorem dL_law_1675 : decode cL_law 1675 = .ok (.iadd, 1) := op_96 (bA_q qh_26 11 96 rfl)
theorem dL_law_1676 : decode cL_law 1676 = .ok (.iaload, 1) := op_46 (bA_q qh_26 12 46 rfl)
theorem dL_law_1677 : decode cL_law 1677 = .ok (.aload_n 0, 1) := op_42 (bA_q qh_26 13 42 rfl)
theorem dL_law_1678 : decode cL_law 1678 = .ok (.iload 4, 2) := op_21 (bA_q qh_26 14 21 rfl) (bA_q qh_26 15 4 rfl)
theorem dL_law_1680 : decode cL_law 1680 = .ok (.iconst 2, 1) := op_5 (bA_q qh_26 16 5 rfl)
theorem dL_law_1681 : decode cL_law 1681 = .ok (.iadd, 1) := op_96 (bA_q qh_26 17 96 rfl)
theorem dL_law_1682 : decode cL_law 1682 = .ok (.iaload, 1) := op_46 (bA_q qh_26 18 46 rfl)
theorem dL_law_1683 : decode cL_law 1683 = .ok (.aload_n 0, 1) := op_42 (bA_q qh_26 19 42 rfl)
theorem dL_law_1684 : decode cL_law 1684 = .ok (.iload 4, 2) := op_21 (bA_q qh_26 20 21 rfl) (bA_q qh_26 21 4 rfl)
theorem dL_law_1686 : decode cL_law 1686 = .ok (.iconst 3, 1) := op_6 (bA_q qh_26 22 6 rfl)
theorem dL_law_1687 : decode cL_law 1687 = .ok (.iadd, 1) := op_96 (bA_q qh_26 23 96 rfl)
theorem dL_law_1688 : decode cL_law 1688 = .ok (.iaload, 1) := op_46 (bA_q qh_26 24 46 rfl)
theorem dL_law_1689 : decode cL_law 1689 = .ok (.ifCond .eq 7, 3) := op_153 (bA_q qh_26 25 153 rfl) (bA_q qh_26 26 0 rfl) (bA_q qh_26 27 7 rfl) rfl
theorem dL_law_1692 : decode cL_law 1692 = .ok (.iconst 1, 1) := op_4 (bA_q qh_26 28 4 rfl)
theorem dL_law_1693 : decode cL_law 1693 = .ok (.goto 4, 3) := op_167 (bA_q qh_26 29 167 rfl) (bA_q qh_26 30 0 rfl) (bA_q qh_26 31 4 rfl) rfl
theorem dL_law_1696 : decode cL_law 1696 = .ok (.iconst 0, 1) := op_3 (bA_q qh_26 32 3 rfl)
theorem dL_law_1697 : decode cL_law 1697 = .ok (.invokevirtual 277, 3) := op_182 (bA_q qh_26 33 182 rfl) (bA_q qh_26 34 1 rfl) (bA_q qh_26 35 21 rfl) rfl
theorem dL_law_1700 : decode cL_law 1700 = .ok (.istore 6, 2) := op_54 (bA_q qh_26 36 54 rfl) (bA_q qh_26 37 6 rfl)
theorem dL_law_1702 : decode cL_law 1702 = .ok (.goto 544, 3) := op_167 (bA_q qh_26 38 167 rfl) (bA_q qh_26 39 2 rfl) (bA_q qh_26 40 32 rfl) rfl
theorem dL_law_1705 : decode cL_law 1705 = .ok (.aload_n 1, 1) := op_43 (bA_q qh_26 41 43 rfl)
theorem dL_law_1706 : decode cL_law 1706 = .ok (.aload_n 0, 1) := op_42 (bA_q qh_26 42 42 rfl)
theorem dL_law_1707 : decode cL_law 1707 = .ok (.iload 4, 2) := op_21 (bA_q qh_26 43 21 rfl) (bA_q qh_26 44 4 rfl)
theorem dL_law_1709 : decode cL_law 1709 = .ok (.iconst 1, 1) := op_4 (bA_q qh_26 45 4 rfl)
theorem dL_law_1710 : decode cL_law 1710 = .ok (.iadd, 1) := op_96 (bA_q qh_26 46 96 rfl)
end
/-! 69.lawd3.lean.txt -/
section
theorem dL_law_1711 : decode cL_law 1711 = .ok (.iaload, 1) := op_46 (bA_q qh_26 47 46 rfl)
theorem dL_law_1712 : decode cL_law 1712 = .ok (.aload_n 0, 1) := op_42 (bA_q qh_26 48 42 rfl)
theorem dL_law_1713 : decode cL_law 1713 = .ok (.iload 4, 2) := op_21 (bA_q qh_26 49 21 rfl) (bA_q qh_26 50 4 rfl)
theorem dL_law_1715 : decode cL_law 1715 = .ok (.iconst 2, 1) := op_5 (bA_q qh_26 51 5 rfl)
theorem dL_law_1716 : decode cL_law 1716 = .ok (.iadd, 1) := op_96 (bA_q qh_26 52 96 rfl)
theorem dL_law_1717 : decode cL_law 1717 = .ok (.iaload, 1) := op_46 (bA_q qh_26 53 46 rfl)
theorem dL_law_1718 : decode cL_law 1718 = .ok (.aload_n 0, 1) := op_42 (bA_q qh_26 54 42 rfl)
theorem dL_law_1719 : decode cL_law 1719 = .ok (.iload 4, 2) := op_21 (bA_q qh_26 55 21 rfl) (bA_q qh_26 56 4 rfl)
theorem dL_law_1721 : decode cL_law 1721 = .ok (.iconst 3, 1) := op_6 (bA_q qh_26 57 6 rfl)
theorem dL_law_1722 : decode cL_law 1722 = .ok (.iadd, 1) := op_96 (bA_q qh_26 58 96 rfl)
theorem dL_law_1723 : decode cL_law 1723 = .ok (.iaload, 1) := op_46 (bA_q qh_26 59 46 rfl)
theorem dL_law_1724 : decode cL_law 1724 = .ok (.aload_n 3, 1) := op_45 (bA_q qh_26 60 45 rfl)
theorem dL_law_1725 : decode cL_law 1725 = .ok (.invokestatic 278, 3) := op_184 (bA_q qh_26 61 184 rfl) (bA_q qh_26 62 1 rfl) (bA_q qh_26 63 22 rfl) rfl
theorem dL_law_1728 : decode cL_law 1728 = .ok (.istore 5, 2) := op_54 (bA_q qh_27 0 54 rfl) (bA_q qh_27 1 5 rfl)
theorem dL_law_1730 : decode cL_law 1730 = .ok (.aload_n 2, 1) := op_44 (bA_q qh_27 2 44 rfl)
theorem dL_law_1731 : decode cL_law 1731 = .ok (.aload_n 0, 1) := op_42 (bA_q qh_27 3 42 rfl)
theorem dL_law_1732 : decode cL_law 1732 = .ok (.iload 4, 2) := op_21 (bA_q qh_27 4 21 rfl) (bA_q qh_27 5 4 rfl)
theorem dL_law_1734 : decode cL_law 1734 = .ok (.iconst 1, 1) := op_4 (bA_q qh_27 6 4 rfl)
theorem dL_law_1735 : decode cL_law 1735 = .ok (.iadd, 1) := op_96 (bA_q qh_27 7 96 rfl)
theorem dL_law_1736 : decode cL_law 1736 = .ok (.iaload, 1) := op_46 (bA_q qh_27 8 46 rfl)
theorem dL_law_1737 : decode cL_law 1737 = .ok (.aload_n 0, 1) := op_42 (bA_q qh_27 9 42 rfl)
theorem dL_law_1738 : decode cL_law 1738 = .ok (.iload 4, 2) := op_21 (bA_q qh_27 10 21 rfl) (bA_q qh_27 11 4 rfl)
theorem dL_law_1740 : decode cL_law 1740 = .ok (.iconst 2, 1) := op_5 (bA_q qh_27 12 5 rfl)
theorem dL_law_1741 : decode cL_law 1741 = .ok (.iadd, 1) := op_96 (bA_q qh_27 13 96 rfl)
theorem dL_law_1742 : decode cL_law 1742 = .ok (.iaload, 1) := op_46 (bA_q qh_27 14 46 rfl)
theorem dL_law_1743 : decode cL_law 1743 = .ok (.aload_n 0, 1) := op_42 (bA_q qh_27 15 42 rfl)
theorem dL_law_1744 : decode cL_law 1744 = .ok (.iload 4, 2) := op_21 (bA_q qh_27 16 21 rfl) (bA_q qh_27 17 4 rfl)
theorem dL_law_1746 : decode cL_law 1746 = .ok (.iconst 3, 1) := op_6 (bA_q qh_27 18 6 rfl)
theorem dL_law_1747 : decode cL_law 1747 = .ok (.iadd, 1) := op_96 (bA_q qh_27 19 96 rfl)
theorem dL_law_1748 : decode cL_law 1748 = .ok (.iaload, 1) := op_46 (bA_q qh_27 20 46 rfl)
theorem dL_law_1749 : decode cL_law 1749 = .ok (.invokevirtual 280, 3) := op_182 (bA_q qh_27 21 182 rfl) (bA_q qh_27 22 1 rfl) (bA_q qh_27 23 24 rfl) rfl
theorem dL_law_1752 : decode cL_law 1752 = .ok (.istore 6, 2) := op_54 (bA_q qh_27 24 54 rfl) (bA_q qh_27 25 6 rfl)
theorem dL_law_1754 : decode cL_law 1754 = .ok (.goto 492, 3) := op_167 (bA_q qh_27 26 167 rfl) (bA_q qh_27 27 1 rfl) (bA_q qh_27 28 236 rfl) rfl
theorem dL_law_1757 : decode cL_law 1757 = .ok (.aload_n 1, 1) := op_43 (bA_q qh_27 29 43 rfl)
theorem dL_law_1758 : decode cL_law 1758 = .ok (.aload_n 0, 1) := op_42 (bA_q qh_27 30 42 rfl)
theorem dL_law_1759 : decode cL_law 1759 = .ok (.iload 4, 2) := op_21 (bA_q qh_27 31 21 rfl) (bA_q qh_27 32 4 rfl)
theorem dL_law_1761 : decode cL_law 1761 = .ok (.iconst 1, 1) := op_4 (bA_q qh_27 33 4 rfl)
theorem dL_law_1762 : decode cL_law 1762 = .ok (.iadd, 1) := op_96 (bA_q qh_27 34 96 rfl)
theorem dL_law_1763 : decode cL_law 1763 = .ok (.iaload, 1) := op_46 (bA_q qh_27 35 46 rfl)
theorem dL_law_1764 : decode cL_law 1764 = .ok (.aload_n 0, 1) := op_42 (bA_q qh_27 36 42 rfl)
theorem dL_law_1765 : decode cL_law 1765 = .ok (.iload 4, 2) := op_21 (bA_q qh_27 37 21 rfl) (bA_q qh_27 38 4 rfl)
theorem dL_law_1767 : decode cL_law 1767 = .ok (.iconst 2, 1) := op_5 (bA_q qh_27 39 5 rfl)
theorem dL_law_1768 : decode cL_law 1768 = .ok (.iadd, 1) := op_96 (bA_q qh_27 40 96 rfl)
theorem dL_law_1769 : decode cL_law 1769 = .ok (.iaload, 1) := op_46 (bA_q qh_27 41 46 rfl)
theorem dL_law_1770 : decode cL_law 1770 = .ok (.aload_n 3, 1) := op_45 (bA_q qh_27 42 45 rfl)
theorem dL_law_1771 : decode cL_law 1771 = .ok (.invokestatic 281, 3) := op_184 (bA_q qh_27 43 184 rfl) (bA_q qh_27 44 1 rfl) (bA_q qh_27 45 25 rfl) rfl
theorem dL_law_1774 : decode cL_law 1774 = .ok (.istore 5, 2) := op_54 (bA_q qh_27 46 54 rfl) (bA_q qh_27 47 5 rfl)
theorem dL_law_1776 : decode cL_law 1776 = .ok (.aload_n 2, 1) := op_44 (bA_q qh_27 48 44 rfl)
theorem dL_law_1777 : decode cL_law 1777 = .ok (.aload_n 0, 1) := op_42 (bA_q qh_27 49 42 rfl)
theorem dL_law_1778 : decode cL_law 1778 = .ok (.iload 4, 2) := op_21 (bA_q qh_27 50 21 rfl) (bA_q qh_27 51 4 rfl)
theorem dL_law_1780 : decode cL_law 1780 = .ok (.iconst 1, 1) := op_4 (bA_q qh_27 52 4 rfl)
theorem dL_law_1781 : decode cL_law 1781 = .ok (.iadd, 1) := op_96 (bA_q qh_27 53 96 rfl)
theorem dL_law_1782 : decode cL_law 1782 = .ok (.iaload, 1) := op_46 (bA_q qh_27 54 46 rfl)
theorem dL_law_1783 : decode cL_law 1783 = .ok (.aload_n 0, 1) := op_42 (bA_q qh_27 55 42 rfl)
theorem dL_law_1784 : decode cL_law 1784 = .ok (.iload 4, 2) := op_21 (bA_q qh_27 56 21 rfl) (bA_q qh_27 57 4 rfl)
theorem dL_law_1786 : decode cL_law 1786 = .ok (.iconst 2, 1) := op_5 (bA_q qh_27 58 5 rfl)
theorem dL_law_1787 : decode cL_law 1787 = .ok (.iadd, 1) := op_96 (bA_q qh_27 59 96 rfl)
theorem dL_law_1788 : decode cL_law 1788 = .ok (.iaload, 1) := op_46 (bA_q qh_27 60 46 rfl)
theorem dL_law_1789 : decode cL_law 1789 = .ok (.invokevirtual 283, 3) := op_182 (bA_q qh_27 61 182 rfl) (bA_q qh_27 62 1 rfl) (bA_q qh_27 63 27 rfl) rfl
theorem dL_law_1792 : decode cL_law 1792 = .ok (.istore 6, 2) := op_54 (bA_q qh_28 0 54 rfl) (bA_q qh_28 1 6 rfl)
theorem dL_law_1794 : decode cL_law 1794 = .ok (.goto 452, 3) := op_167 (bA_q qh_28 2 167 rfl) (bA_q qh_28 3 1 rfl) (bA_q qh_28 4 196 rfl) rfl
theorem dL_law_1797 : decode cL_law 1797 = .ok (.aload_n 1, 1) := op_43 (bA_q qh_28 5 43 rfl)
theorem dL_law_1798 : decode cL_law 1798 = .ok (.aload_n 0, 1) := op_42 (bA_q qh_28 6 42 rfl)
theorem dL_law_1799 : decode cL_law 1799 = .ok (.iload 4, 2) := op_21 (bA_q qh_28 7 21 rfl) (bA_q qh_28 8 4 rfl)
theorem dL_law_1801 : decode cL_law 1801 = .ok (.iconst 1, 1) := op_4 (bA_q qh_28 9 4 rfl)
theorem dL_law_1802 : decode cL_law 1802 = .ok (.iadd, 1) := op_96 (bA_q qh_28 10 96 rfl)
theorem dL_law_1803 : decode cL_law 1803 = .ok (.iaload, 1) := op_46 (bA_q qh_28 11 46 rfl)
theorem dL_law_1804 : decode cL_law 1804 = .ok (.aload_n 3, 1) := op_45 (bA_q qh_28 12 45 rfl)
theorem dL_law_1805 : decode cL_law 1805 = .ok (.invokestatic 284, 3) := op_184 (bA_q qh_28 13 184 rfl) (bA_q qh_28 14 1 rfl) (bA_q qh_28 15 28 rfl) rfl
theorem dL_law_1808 : decode cL_law 1808 = .ok (.istore 5, 2) := op_54 (bA_q qh_28 16 54 rfl) (bA_q qh_28 17 5 rfl)
theorem dL_law_1810 : decode cL_law 1810 = .ok (.aload_n 2, 1) := op_44 (bA_q qh_28 18 44 rfl)
theorem dL_law_1811 : decode cL_law 1811 = .ok (.aload_n 0, 1) := op_42 (bA_q qh_28 19 42 rfl)
theorem dL_law_1812 : decode cL_law 1812 = .ok (.iload 4, 2) := op_21 (bA_q qh_28 20 21 rfl) (bA_q qh_28 21 4 rfl)
theorem dL_law_1814 : decode cL_law 1814 = .ok (.iconst 1, 1) := op_4 (bA_q qh_28 22 4 rfl)
theorem dL_law_1815 : decode cL_law 1815 = .ok (.iadd, 1) := op_96 (bA_q qh_28 23 96 rfl)
theorem dL_law_1816 : decode cL_law 1816 = .ok (.iaload, 1) := op_46 (bA_q qh_28 24 46 rfl)
theorem dL_law_1817 : decode cL_law 1817 = .ok (.invokevirtual 286, 3) := op_182 (bA_q qh_28 25 182 rfl) (bA_q qh_28 26 1 rfl) (bA_q qh_28 27 30 rfl) rfl
theorem dL_law_1820 : decode cL_law 1820 = .ok (.istore 6, 2) := op_54 (bA_q qh_28 28 54 rfl) (bA_q qh_28 29 6 rfl)
theorem dL_law_1822 : decode cL_law 1822 = .ok (.goto 424, 3) := op_167 (bA_q qh_28 30 167 rfl) (bA_q qh_28 31 1 rfl) (bA_q qh_28 32 168 rfl) rfl
theorem dL_law_1825 : decode cL_law 1825 = .ok (.aload_n 1, 1) := op_43 (bA_q qh_28 33 43 rfl)
theorem dL_law_1826 : decode cL_law 1826 = .ok (.aload_n 0, 1) := op_42 (bA_q qh_28 34 42 rfl)
theorem dL_law_1827 : decode cL_law 1827 = .ok (.iload 4, 2) := op_21 (bA_q qh_28 35 21 rfl) (bA_q qh_28 36 4 rfl)
theorem dL_law_1829 : decode cL_law 1829 = .ok (.iconst 1, 1) := op_4 (bA_q qh_28 37 4 rfl)
theorem dL_law_1830 : decode cL_law 1830 = .ok (.iadd, 1) := op_96 (bA_q qh_28 38 96 rfl)
theorem dL_law_1831 : decode cL_law 1831 = .ok (.iaload, 1) := op_46 (bA_q qh_28 39 46 rfl)
theorem dL_law_1832 : decode cL_law 1832 = .ok (.aload_n 0, 1) := op_42 (bA_q qh_28 40 42 rfl)
theorem dL_law_1833 : decode cL_law 1833 = .ok (.iload 4, 2) := op_21 (bA_q qh_28 41 21 rfl) (bA_q qh_28 42 4 rfl)
theorem dL_law_1835 : decode cL_law 1835 = .ok (.iconst 2, 1) := op_5 (bA_q qh_28 43 5 rfl)
theorem dL_law_1836 : decode cL_law 1836 = .ok (.iadd, 1) := op_96 (bA_q qh_28 44 96 rfl)
theorem dL_law_1837 : decode cL_law 1837 = .ok (.iaload, 1) := op_46 (bA_q qh_28 45 46 rfl)
theorem dL_law_1838 : decode cL_law 1838 = .ok (.aload_n 3, 1) := op_45 (bA_q qh_28 46 45 rfl)
theorem dL_law_1839 : decode cL_law 1839 = .ok (.invokestatic 287, 3) := op_184 (bA_q qh_28 47 184 rfl) (bA_q qh_28 48 1 rfl) (bA_q qh_28 49 31 rfl) rfl
theorem dL_law_1842 : decode cL_law 1842 = .ok (.istore 5, 2) := op_54 (bA_q qh_28 50 54 rfl) (bA_q qh_28 51 5 rfl)
theorem dL_law_1844 : decode cL_law 1844 = .ok (.aload_n 2, 1) := op_44 (bA_q qh_28 52 44 rfl)
theorem dL_law_1845 : decode cL_law 1845 = .ok (.aload_n 0, 1) := op_42 (bA_q qh_28 53 42 rfl)
theorem dL_law_1846 : decode cL_law 1846 = .ok (.iload 4, 2) := op_21 (bA_q qh_28 54 21 rfl) (bA_q qh_28 55 4 rfl)
theorem dL_law_1848 : decode cL_law 1848 = .ok (.iconst 1, 1) := op_4 (bA_q qh_28 56 4 rfl)
theorem dL_law_1849 : decode cL_law 1849 = .ok (.iadd, 1) := op_96 (bA_q qh_28 57 96 rfl)
theorem dL_law_1850 : decode cL_law 1850 = .ok (.iaload, 1) := op_46 (bA_q qh_28 58 46 rfl)
theorem dL_law_1851 : decode cL_law 1851 = .ok (.aload_n 0, 1) := op_42 (bA_q qh_28 59 42 rfl)
theorem dL_law_1852 : decode cL_law 1852 = .ok (.iload 4, 2) := op_21 (bA_q qh_28 60 21 rfl) (bA_q qh_28 61 4 rfl)
theorem dL_law_1854 : decode cL_law 1854 = .ok (.iconst 2, 1) := op_5 (bA_q qh_28 62 5 rfl)
theorem dL_law_1855 : decode cL_law 1855 = .ok (.iadd, 1) := op_96 (bA_q qh_28 63 96 rfl)
theorem dL_law_1856 : decode cL_law 1856 = .ok (.iaload, 1) := op_46 (bA_q qh_29 0 46 rfl)
theorem dL_law_1857 : decode cL_law 1857 = .ok (.invokevirtual 289, 3) := op_182 (bA_q qh_29 1 182 rfl) (bA_q qh_29 2 1 rfl) (bA_q qh_29 3 33 rfl) rfl
theorem dL_law_1860 : decode cL_law 1860 = .ok (.istore 6, 2) := op_54 (bA_q qh_29 4 54 rfl) (bA_q qh_29 5 6 rfl)
theorem dL_law_1862 : decode cL_law 1862 = .ok (.goto 384, 3) := op_167 (bA_q qh_29 6 167 rfl) (bA_q qh_29 7 1 rfl) (bA_q qh_29 8 128 rfl) rfl
theorem dL_law_1865 : decode cL_law 1865 = .ok (.aload_n 1, 1) := op_43 (bA_q qh_29 9 43 rfl)
theorem dL_law_1866 : decode cL_law 1866 = .ok (.aload_n 0, 1) := op_42 (bA_q qh_29 10 42 rfl)
theorem dL_law_1867 : decode cL_law 1867 = .ok (.iload 4, 2) := op_21 (bA_q qh_29 11 21 rfl) (bA_q qh_29 12 4 rfl)
theorem dL_law_1869 : decode cL_law 1869 = .ok (.iconst 1, 1) := op_4 (bA_q qh_29 13 4 rfl)
theorem dL_law_1870 : decode cL_law 1870 = .ok (.iadd, 1) := op_96 (bA_q qh_29 14 96 rfl)
theorem dL_law_1871 : decode cL_law 1871 = .ok (.iaload, 1) := op_46 (bA_q qh_29 15 46 rfl)
theorem dL_law_1872 : decode cL_law 1872 = .ok (.aload_n 0, 1) := op_42 (bA_q qh_29 16 42 rfl)
theorem dL_law_1873 : decode cL_law 1873 = .ok (.iload 4, 2) := op_21 (bA_q qh_29 17 21 rfl) (bA_q qh_29 18 4 rfl)
theorem dL_law_1875 : decode cL_law 1875 = .ok (.iconst 2, 1) := op_5 (bA_q qh_29 19 5 rfl)
theorem dL_law_1876 : decode cL_law 1876 = .ok (.iadd, 1) := op_96 (bA_q qh_29 20 96 rfl)
theorem dL_law_1877 : decode cL_law 1877 = .ok (.iaload, 1) := op_46 (bA_q qh_29 21 46 rfl)
theorem dL_law_1878 : decode cL_law 1878 = .ok (.aload_n 3, 1) := op_45 (bA_q qh_29 22 45 rfl)
theorem dL_law_1879 : decode cL_law 1879 = .ok (.invokestatic 290, 3) := op_184 (bA_q qh_29 23 184 rfl) (bA_q qh_29 24 1 rfl) (bA_q qh_29 25 34 rfl) rfl
theorem dL_law_1882 : decode cL_law 1882 = .ok (.istore 5, 2) := op_54 (bA_q qh_29 26 54 rfl) (bA_q qh_29 27 5 rfl)
theorem dL_law_1884 : decode cL_law 1884 = .ok (.aload_n 2, 1) := op_44 (bA_q qh_29 28 44 rfl)
theorem dL_law_1885 : decode cL_law 1885 = .ok (.aload_n 0, 1) := op_42 (bA_q qh_29 29 42 rfl)
theorem dL_law_1886 : decode cL_law 1886 = .ok (.iload 4, 2) := op_21 (bA_q qh_29 30 21 rfl) (bA_q qh_29 31 4 rfl)
theorem dL_law_1888 : decode cL_law 1888 = .ok (.iconst 1, 1) := op_4 (bA_q qh_29 32 4 rfl)
theorem dL_law_1889 : decode cL_law 1889 = .ok (.iadd, 1) := op_96 (bA_q qh_29 33 96 rfl)
theorem dL_law_1890 : decode cL_law 1890 = .ok (.iaload, 1) := op_46 (bA_q qh_29 34 46 rfl)
theorem dL_law_1891 : decode cL_law 1891 = .ok (.aload_n 0, 1) := op_42 (bA_q qh_29 35 42 rfl)
theorem dL_law_1892 : decode cL_law 1892 = .ok (.iload 4, 2) := op_21 (bA_q qh_29 36 21 rfl) (bA_q qh_29 37 4 rfl)
theorem dL_law_1894 : decode cL_law 1894 = .ok (.iconst 2, 1) := op_5 (bA_q qh_29 38 5 rfl)
theorem dL_law_1895 : decode cL_law 1895 = .ok (.iadd, 1) := op_96 (bA_q qh_29 39 96 rfl)
theorem dL_law_1896 : decode cL_law 1896 = .ok (.iaload, 1) := op_46 (bA_q qh_29 40 46 rfl)
theorem dL_law_1897 : decode cL_law 1897 = .ok (.invokevirtual 292, 3) := op_182 (bA_q qh_29 41 182 rfl) (bA_q qh_29 42 1 rfl) (bA_q qh_29 43 36 rfl) rfl
theorem dL_law_1900 : decode cL_law 1900 = .ok (.istore 6, 2) := op_54 (bA_q qh_29 44 54 rfl) (bA_q qh_29 45 6 rfl)
theorem dL_law_1902 : decode cL_law 1902 = .ok (.goto 344, 3) := op_167 (bA_q qh_29 46 167 rfl) (bA_q qh_29 47 1 rfl) (bA_q qh_29 48 88 rfl) rfl
theorem dL_law_1905 : decode cL_law 1905 = .ok (.aload_n 1, 1) := op_43 (bA_q qh_29 49 43 rfl)
theorem dL_law_1906 : decode cL_law 1906 = .ok (.aload_n 0, 1) := op_42 (bA_q qh_29 50 42 rfl)
theorem dL_law_1907 : decode cL_law 1907 = .ok (.iload 4, 2) := op_21 (bA_q qh_29 51 21 rfl) (bA_q qh_29 52 4 rfl)
theorem dL_law_1909 : decode cL_law 1909 = .ok (.iconst 1, 1) := op_4 (bA_q qh_29 53 4 rfl)
theorem dL_law_1910 : decode cL_law 1910 = .ok (.iadd, 1) := op_96 (bA_q qh_29 54 96 rfl)
theorem dL_law_1911 : decode cL_law 1911 = .ok (.iaload, 1) := op_46 (bA_q qh_29 55 46 rfl)
theorem dL_law_1912 : decode cL_law 1912 = .ok (.aload_n 3, 1) := op_45 (bA_q qh_29 56 45 rfl)
theorem dL_law_1913 : decode cL_law 1913 = .ok (.invokestatic 293, 3) := op_184 (bA_q qh_29 57 184 rfl) (bA_q qh_29 58 1 rfl) (bA_q qh_29 59 37 rfl) rfl
theorem dL_law_1916 : decode cL_law 1916 = .ok (.istore 5, 2) := op_54 (bA_q qh_29 60 54 rfl) (bA_q qh_29 61 5 rfl)
theorem dL_law_1918 : decode cL_law 1918 = .ok (.aload_n 2, 1) := op_44 (bA_q qh_29 62 44 rfl)
theorem dL_law_1919 : decode cL_law 1919 = .ok (.aload_n 0, 1) := op_42 (bA_q qh_29 63 42 rfl)
theorem dL_law_1920 : decode cL_law 1920 = .ok (.iload 4, 2) := op_21 (bA_q qh_30 0 21 rfl) (bA_q qh_30 1 4 rfl)
theorem dL_law_1922 : decode cL_law 1922 = .ok (.iconst 1, 1) := op_4 (bA_q qh_30 2 4 rfl)
theorem dL_law_1923 : decode cL_law 1923 = .ok (.iadd, 1) := op_96 (bA_q qh_30 3 96 rfl)
theorem dL_law_1924 : decode cL_law 1924 = .ok (.iaload, 1) := op_46 (bA_q qh_30 4 46 rfl)
theorem dL_law_1925 : decode cL_law 1925 = .ok (.invokevirtual 295, 3) := op_182 (bA_q qh_30 5 182 rfl) (bA_q qh_30 6 1 rfl) (bA_q qh_30 7 39 rfl) rfl
theorem dL_law_1928 : decode cL_law 1928 = .ok (.istore 6, 2) := op_54 (bA_q qh_30 8 54 rfl) (bA_q qh_30 9 6 rfl)
theorem dL_law_1930 : decode cL_law 1930 = .ok (.goto 316, 3) := op_167 (bA_q qh_30 10 167 rfl) (bA_q qh_30 11 1 rfl) (bA_q qh_30 12 60 rfl) rfl
theorem dL_law_1933 : decode cL_law 1933 = .ok (.aload_n 1, 1) := op_43 (bA_q qh_30 13 43 rfl)
theorem dL_law_1934 : decode cL_law 1934 = .ok (.aload_n 0, 1) := op_42 (bA_q qh_30 14 42 rfl)
theorem dL_law_1935 : decode cL_law 1935 = .ok (.iload 4, 2) := op_21 (bA_q qh_30 15 21 rfl) (bA_q qh_30 16 4 rfl)
theorem dL_law_1937 : decode cL_law 1937 = .ok (.iconst 1, 1) := op_4 (bA_q qh_30 17 4 rfl)
theorem dL_law_1938 : decode cL_law 1938 = .ok (.iadd, 1) := op_96 (bA_q qh_30 18 96 rfl)
theorem dL_law_1939 : decode cL_law 1939 = .ok (.iaload, 1) := op_46 (bA_q qh_30 19 46 rfl)
theorem dL_law_1940 : decode cL_law 1940 = .ok (.aload_n 3, 1) := op_45 (bA_q qh_30 20 45 rfl)
theorem dL_law_1941 : decode cL_law 1941 = .ok (.invokestatic 296, 3) := op_184 (bA_q qh_30 21 184 rfl) (bA_q qh_30 22 1 rfl) (bA_q qh_30 23 40 rfl) rfl
theorem dL_law_1944 : decode cL_law 1944 = .ok (.istore 5, 2) := op_54 (bA_q qh_30 24 54 rfl) (bA_q qh_30 25 5 rfl)
theorem dL_law_1946 : decode cL_law 1946 = .ok (.aload_n 2, 1) := op_44 (bA_q qh_30 26 44 rfl)
theorem dL_law_1947 : decode cL_law 1947 = .ok (.aload_n 0, 1) := op_42 (bA_q qh_30 27 42 rfl)
theorem dL_law_1948 : decode cL_law 1948 = .ok (.iload 4, 2) := op_21 (bA_q qh_30 28 21 rfl) (bA_q qh_30 29 4 rfl)
theorem dL_law_1950 : decode cL_law 1950 = .ok (.iconst 1, 1) := op_4 (bA_q qh_30 30 4 rfl)
theorem dL_law_1951 : decode cL_law 1951 = .ok (.iadd, 1) := op_96 (bA_q qh_30 31 96 rfl)
theorem dL_law_1952 : decode cL_law 1952 = .ok (.iaload, 1) := op_46 (bA_q qh_30 32 46 rfl)
theorem dL_law_1953 : decode cL_law 1953 = .ok (.invokevirtual 298, 3) := op_182 (bA_q qh_30 33 182 rfl) (bA_q qh_30 34 1 rfl) (bA_q qh_30 35 42 rfl) rfl
theorem dL_law_1956 : decode cL_law 1956 = .ok (.istore 6, 2) := op_54 (bA_q qh_30 36 54 rfl) (bA_q qh_30 37 6 rfl)
theorem dL_law_1958 : decode cL_law 1958 = .ok (.goto 288, 3) := op_167 (bA_q qh_30 38 167 rfl) (bA_q qh_30 39 1 rfl) (bA_q qh_30 40 32 rfl) rfl
theorem dL_law_1961 : decode cL_law 1961 = .ok (.aload_n 1, 1) := op_43 (bA_q qh_30 41 43 rfl)
theorem dL_law_1962 : decode cL_law 1962 = .ok (.aload_n 0, 1) := op_42 (bA_q qh_30 42 42 rfl)
theorem dL_law_1963 : decode cL_law 1963 = .ok (.iload 4, 2) := op_21 (bA_q qh_30 43 21 rfl) (bA_q qh_30 44 4 rfl)
theorem dL_law_1965 : decode cL_law 1965 = .ok (.iconst 1, 1) := op_4 (bA_q qh_30 45 4 rfl)
theorem dL_law_1966 : decode cL_law 1966 = .ok (.iadd, 1) := op_96 (bA_q qh_30 46 96 rfl)
theorem dL_law_1967 : decode cL_law 1967 = .ok (.iaload, 1) := op_46 (bA_q qh_30 47 46 rfl)
theorem dL_law_1968 : decode cL_law 1968 = .ok (.aload_n 0, 1) := op_42 (bA_q qh_30 48 42 rfl)
theorem dL_law_1969 : decode cL_law 1969 = .ok (.iload 4, 2) := op_21 (bA_q qh_30 49 21 rfl) (bA_q qh_30 50 4 rfl)
theorem dL_law_1971 : decode cL_law 1971 = .ok (.iconst 2, 1) := op_5 (bA_q qh_30 51 5 rfl)
theorem dL_law_1972 : decode cL_law 1972 = .ok (.iadd, 1) := op_96 (bA_q qh_30 52 96 rfl)
theorem dL_law_1973 : decode cL_law 1973 = .ok (.iaload, 1) := op_46 (bA_q qh_30 53 46 rfl)
theorem dL_law_1974 : decode cL_law 1974 = .ok (.ifCond .eq 7, 3) := op_153 (bA_q qh_30 54 153 rfl) (bA_q qh_30 55 0 rfl) (bA_q qh_30 56 7 rfl) rfl
theorem dL_law_1977 : decode cL_law 1977 = .ok (.iconst 1, 1) := op_4 (bA_q qh_30 57 4 rfl)
theorem dL_law_1978 : decode cL_law 1978 = .ok (.goto 4, 3) := op_167 (bA_q qh_30 58 167 rfl) (bA_q qh_30 59 0 rfl) (bA_q qh_30 60 4 rfl) rfl
theorem dL_law_1981 : decode cL_law 1981 = .ok (.iconst 0, 1) := op_3 (bA_q qh_30 61 3 rfl)
theorem dL_law_1982 : decode cL_law 1982 = .ok (.aload_n 3, 1) := op_45 (bA_q qh_30 62 45 rfl)
theorem dL_law_1983 : decode cL_law 1983 = .ok (.invokestatic 299, 3) := op_184 (bA_q qh_30 63 184 rfl) (bA_q qh_30 64 1 rfl) (bA_q qh_30 65 43 rfl) rfl
theorem dL_law_1986 : decode cL_law 1986 = .ok (.istore 5, 2) := op_54 (bA_q qh_31 2 54 rfl) (bA_q qh_31 3 5 rfl)
theorem dL_law_1988 : decode cL_law 1988 = .ok (.aload_n 2, 1) := op_44 (bA_q qh_31 4 44 rfl)
theorem dL_law_1989 : decode cL_law 1989 = .ok (.aload_n 0, 1) := op_42 (bA_q qh_31 5 42 rfl)
theorem dL_law_1990 : decode cL_law 1990 = .ok (.iload 4, 2) := op_21 (bA_q qh_31 6 21 rfl) (bA_q qh_31 7 4 rfl)
theorem dL_law_1992 : decode cL_law 1992 = .ok (.iconst 1, 1) := op_4 (bA_q qh_31 8 4 rfl)
theorem dL_law_1993 : decode cL_law 1993 = .ok (.iadd, 1) := op_96 (bA_q qh_31 9 96 rfl)
theorem dL_law_1994 : decode cL_law 1994 = .ok (.iaload, 1) := op_46 (bA_q qh_31 10 46 rfl)
theorem dL_law_1995 : decode cL_law 1995 = .ok (.aload_n 0, 1) := op_42 (bA_q qh_31 11 42 rfl)
theorem dL_law_1996 : decode cL_law 1996 = .ok (.iload 4, 2) := op_21 (bA_q qh_31 12 21 rfl) (bA_q qh_31 13 4 rfl)
theorem dL_law_1998 : decode cL_law 1998 = .ok (.iconst 2, 1) := op_5 (bA_q qh_31 14 5 rfl)
theorem dL_law_1999 : decode cL_law 1999 = .ok (.iadd, 1) := op_96 (bA_q qh_31 15 96 rfl)
theorem dL_law_2000 : decode cL_law 2000 = .ok (.iaload, 1) := op_46 (bA_q qh_31 16 46 rfl)
theorem dL_law_2001 : decode cL_law 2001 = .ok (.ifCond .eq 7, 3) := op_153 (bA_q qh_31 17 153 rfl) (bA_q qh_31 18 0 rfl) (bA_q qh_31 19 7 rfl) rfl
theorem dL_law_2004 : decode cL_law 2004 = .ok (.iconst 1, 1) := op_4 (bA_q qh_31 20 4 rfl)
theorem dL_law_2005 : decode cL_law 2005 = .ok (.goto 4, 3) := op_167 (bA_q qh_31 21 167 rfl) (bA_q qh_31 22 0 rfl) (bA_q qh_31 23 4 rfl) rfl
theorem dL_law_2008 : decode cL_law 2008 = .ok (.iconst 0, 1) := op_3 (bA_q qh_31 24 3 rfl)
theorem dL_law_2009 : decode cL_law 2009 = .ok (.invokevirtual 301, 3) := op_182 (bA_q qh_31 25 182 rfl) (bA_q qh_31 26 1 rfl) (bA_q qh_31 27 45 rfl) rfl
theorem dL_law_2012 : decode cL_law 2012 = .ok (.istore 6, 2) := op_54 (bA_q qh_31 28 54 rfl) (bA_q qh_31 29 6 rfl)
theorem dL_law_2014 : decode cL_law 2014 = .ok (.goto 232, 3) := op_167 (bA_q qh_31 30 167 rfl) (bA_q qh_31 31 0 rfl) (bA_q qh_31 32 232 rfl) rfl
theorem dL_law_2017 : decode cL_law 2017 = .ok (.aload_n 1, 1) := op_43 (bA_q qh_31 33 43 rfl)
theorem dL_law_2018 : decode cL_law 2018 = .ok (.aload_n 0, 1) := op_42 (bA_q qh_31 34 42 rfl)
theorem dL_law_2019 : decode cL_law 2019 = .ok (.iload 4, 2) := op_21 (bA_q qh_31 35 21 rfl) (bA_q qh_31 36 4 rfl)
theorem dL_law_2021 : decode cL_law 2021 = .ok (.iconst 1, 1) := op_4 (bA_q qh_31 37 4 rfl)
theorem dL_law_2022 : decode cL_law 2022 = .ok (.iadd, 1) := op_96 (bA_q qh_31 38 96 rfl)
theorem dL_law_2023 : decode cL_law 2023 = .ok (.iaload, 1) := op_46 (bA_q qh_31 39 46 rfl)
theorem dL_law_2024 : decode cL_law 2024 = .ok (.aload_n 3, 1) := op_45 (bA_q qh_31 40 45 rfl)
theorem dL_law_2025 : decode cL_law 2025 = .ok (.invokestatic 302, 3) := op_184 (bA_q qh_31 41 184 rfl) (bA_q qh_31 42 1 rfl) (bA_q qh_31 43 46 rfl) rfl
theorem dL_law_2028 : decode cL_law 2028 = .ok (.istore 5, 2) := op_54 (bA_q qh_31 44 54 rfl) (bA_q qh_31 45 5 rfl)
theorem dL_law_2030 : decode cL_law 2030 = .ok (.aload_n 2, 1) := op_44 (bA_q qh_31 46 44 rfl)
theorem dL_law_2031 : decode cL_law 2031 = .ok (.aload_n 0, 1) := op_42 (bA_q qh_31 47 42 rfl)
theorem dL_law_2032 : decode cL_law 2032 = .ok (.iload 4, 2) := op_21 (bA_q qh_31 48 21 rfl) (bA_q qh_31 49 4 rfl)
theorem dL_law_2034 : decode cL_law 2034 = .ok (.iconst 1, 1) := op_4 (bA_q qh_31 50 4 rfl)
theorem dL_law_2035 : decode cL_law 2035 = .ok (.iadd, 1) := op_96 (bA_q qh_31 51 96 rfl)
theorem dL_law_2036 : decode cL_law 2036 = .ok (.iaload, 1) := op_46 (bA_q qh_31 52 46 rfl)
theorem dL_law_2037 : decode cL_law 2037 = .ok (.invokevirtual 304, 3) := op_182 (bA_q qh_31 53 182 rfl) (bA_q qh_31 54 1 rfl) (bA_q qh_31 55 48 rfl) rfl
theorem dL_law_2040 : decode cL_law 2040 = .ok (.istore 6, 2) := op_54 (bA_q qh_31 56 54 rfl) (bA_q qh_31 57 6 rfl)
theorem dL_law_2042 : decode cL_law 2042 = .ok (.goto 204, 3) := op_167 (bA_q qh_31 58 167 rfl) (bA_q qh_31 59 0 rfl) (bA_q qh_31 60 204 rfl) rfl
theorem dL_law_2045 : decode cL_law 2045 = .ok (.aload_n 1, 1) := op_43 (bA_q qh_31 61 43 rfl)
theorem dL_law_2046 : decode cL_law 2046 = .ok (.aload_n 0, 1) := op_42 (bA_q qh_31 62 42 rfl)
theorem dL_law_2047 : decode cL_law 2047 = .ok (.iload 4, 2) := op_21 (bA_q qh_31 63 21 rfl) (bA_q qh_31 64 4 rfl)
theorem dL_law_2049 : decode cL_law 2049 = .ok (.iconst 1, 1) := op_4 (bA_q qh_32 1 4 rfl)
theorem dL_law_2050 : decode cL_law 2050 = .ok (.iadd, 1) := op_96 (bA_q qh_32 2 96 rfl)
theorem dL_law_2051 : decode cL_law 2051 = .ok (.iaload, 1) := op_46 (bA_q qh_32 3 46 rfl)
theorem dL_law_2052 : decode cL_law 2052 = .ok (.aload_n 3, 1) := op_45 (bA_q qh_32 4 45 rfl)
theorem dL_law_2053 : decode cL_law 2053 = .ok (.invokestatic 305, 3) := op_184 (bA_q qh_32 5 184 rfl) (bA_q qh_32 6 1 rfl) (bA_q qh_32 7 49 rfl) rfl
theorem dL_law_2056 : decode cL_law 2056 = .ok (.istore 5, 2) := op_54 (bA_q qh_32 8 54 rfl) (bA_q qh_32 9 5 rfl)
theorem dL_law_2058 : decode cL_law 2058 = .ok (.aload_n 2, 1) := op_44 (bA_q qh_32 10 44 rfl)
theorem dL_law_2059 : decode cL_law 2059 = .ok (.aload_n 0, 1) := op_42 (bA_q qh_32 11 42 rfl)
theorem dL_law_2060 : decode cL_law 2060 = .ok (.iload 4, 2) := op_21 (bA_q qh_32 12 21 rfl) (bA_q qh_32 13 4 rfl)
theorem dL_law_2062 : decode cL_law 2062 = .ok (.iconst 1, 1) := op_4 (bA_q qh_32 14 4 rfl)
theorem dL_law_2063 : decode cL_law 2063 = .ok (.iadd, 1) := op_96 (bA_q qh_32 15 96 rfl)
theorem dL_law_2064 : decode cL_law 2064 = .ok (.iaload, 1) := op_46 (bA_q qh_32 16 46 rfl)
theorem dL_law_2065 : decode cL_law 2065 = .ok (.invokevirtual 307, 3) := op_182 (bA_q qh_32 17 182 rfl) (bA_q qh_32 18 1 rfl) (bA_q qh_32 19 51 rfl) rfl
theorem dL_law_2068 : decode cL_law 2068 = .ok (.istore 6, 2) := op_54 (bA_q qh_32 20 54 rfl) (bA_q qh_32 21 6 rfl)
theorem dL_law_2070 : decode cL_law 2070 = .ok (.goto 176, 3) := op_167 (bA_q qh_32 22 167 rfl) (bA_q qh_32 23 0 rfl) (bA_q qh_32 24 176 rfl) rfl
theorem dL_law_2073 : decode cL_law 2073 = .ok (.aload_n 1, 1) := op_43 (bA_q qh_32 25 43 rfl)
theorem dL_law_2074 : decode cL_law 2074 = .ok (.aload_n 0, 1) := op_42 (bA_q qh_32 26 42 rfl)
theorem dL_law_2075 : decode cL_law 2075 = .ok (.iload 4, 2) := op_21 (bA_q qh_32 27 21 rfl) (bA_q qh_32 28 4 rfl)
theorem dL_law_2077 : decode cL_law 2077 = .ok (.iconst 1, 1) := op_4 (bA_q qh_32 29 4 rfl)
theorem dL_law_2078 : decode cL_law 2078 = .ok (.iadd, 1) := op_96 (bA_q qh_32 30 96 rfl)
theorem dL_law_2079 : decode cL_law 2079 = .ok (.iaload, 1) := op_46 (bA_q qh_32 31 46 rfl)
theorem dL_law_2080 : decode cL_law 2080 = .ok (.aload_n 0, 1) := op_42 (bA_q qh_32 32 42 rfl)
theorem dL_law_2081 : decode cL_law 2081 = .ok (.iload 4, 2) := op_21 (bA_q qh_32 33 21 rfl) (bA_q qh_32 34 4 rfl)
theorem dL_law_2083 : decode cL_law 2083 = .ok (.iconst 2, 1) := op_5 (bA_q qh_32 35 5 rfl)
theorem dL_law_2084 : decode cL_law 2084 = .ok (.iadd, 1) := op_96 (bA_q qh_32 36 96 rfl)
theorem dL_law_2085 : decode cL_law 2085 = .ok (.iaload, 1) := op_46 (bA_q qh_32 37 46 rfl)
theorem dL_law_2086 : decode cL_law 2086 = .ok (.aload_n 3, 1) := op_45 (bA_q qh_32 38 45 rfl)
theorem dL_law_2087 : decode cL_law 2087 = .ok (.invokestatic 308, 3) := op_184 (bA_q qh_32 39 184 rfl) (bA_q qh_32 40 1 rfl) (bA_q qh_32 41 52 rfl) rfl
theorem dL_law_2090 : decode cL_law 2090 = .ok (.istore 5, 2) := op_54 (bA_q qh_32 42 54 rfl) (bA_q qh_32 43 5 rfl)
theorem dL_law_2092 : decode cL_law 2092 = .ok (.aload_n 2, 1) := op_44 (bA_q qh_32 44 44 rfl)
theorem dL_law_2093 : decode cL_law 2093 = .ok (.aload_n 0, 1) := op_42 (bA_q qh_32 45 42 rfl)
theorem dL_law_2094 : decode cL_law 2094 = .ok (.iload 4, 2) := op_21 (bA_q qh_32 46 21 rfl) (bA_q qh_32 47 4 rfl)
theorem dL_law_2096 : decode cL_law 2096 = .ok (.iconst 1, 1) := op_4 (bA_q qh_32 48 4 rfl)
theorem dL_law_2097 : decode cL_law 2097 = .ok (.iadd, 1) := op_96 (bA_q qh_32 49 96 rfl)
theorem dL_law_2098 : decode cL_law 2098 = .ok (.iaload, 1) := op_46 (bA_q qh_32 50 46 rfl)
theorem dL_law_2099 : decode cL_law 2099 = .ok (.aload_n 0, 1) := op_42 (bA_q qh_32 51 42 rfl)
theorem dL_law_2100 : decode cL_law 2100 = .ok (.iload 4, 2) := op_21 (bA_q qh_32 52 21 rfl) (bA_q qh_32 53 4 rfl)
theorem dL_law_2102 : decode cL_law 2102 = .ok (.iconst 2, 1) := op_5 (bA_q qh_32 54 5 rfl)
theorem dL_law_2103 : decode cL_law 2103 = .ok (.iadd, 1) := op_96 (bA_q qh_32 55 96 rfl)
theorem dL_law_2104 : decode cL_law 2104 = .ok (.iaload, 1) := op_46 (bA_q qh_32 56 46 rfl)
theorem dL_law_2105 : decode cL_law 2105 = .ok (.invokevirtual 310, 3) := op_182 (bA_q qh_32 57 182 rfl) (bA_q qh_32 58 1 rfl) (bA_q qh_32 59 54 rfl) rfl
theorem dL_law_2108 : decode cL_law 2108 = .ok (.istore 6, 2) := op_54 (bA_q qh_32 60 54 rfl) (bA_q qh_32 61 6 rfl)
theorem dL_law_2110 : decode cL_law 2110 = .ok (.goto 136, 3) := op_167 (bA_q qh_32 62 167 rfl) (bA_q qh_32 63 0 rfl) (bA_q qh_32 64 136 rfl) rfl
theorem dL_law_2113 : decode cL_law 2113 = .ok (.aload_n 1, 1) := op_43 (bA_q qh_33 1 43 rfl)
theorem dL_law_2114 : decode cL_law 2114 = .ok (.invokevirtual 311, 3) := op_182 (bA_q qh_33 2 182 rfl) (bA_q qh_33 3 1 rfl) (bA_q qh_33 4 55 rfl) rfl
theorem dL_law_2117 : decode cL_law 2117 = .ok (.pop, 1) := op_87 (bA_q qh_33 5 87 rfl)
theorem dL_law_2118 : decode cL_law 2118 = .ok (.aload_n 2, 1) := op_44 (bA_q qh_33 6 44 rfl)
theorem dL_law_2119 : decode cL_law 2119 = .ok (.invokevirtual 314, 3) := op_182 (bA_q qh_33 7 182 rfl) (bA_q qh_33 8 1 rfl) (bA_q qh_33 9 58 rfl) rfl
theorem dL_law_2122 : decode cL_law 2122 = .ok (.pop, 1) := op_87 (bA_q qh_33 10 87 rfl)
theorem dL_law_2123 : decode cL_law 2123 = .ok (.goto 123, 3) := op_167 (bA_q qh_33 11 167 rfl) (bA_q qh_33 12 0 rfl) (bA_q qh_33 13 123 rfl) rfl
theorem dL_law_2126 : decode cL_law 2126 = .ok (.aload_n 1, 1) := op_43 (bA_q qh_33 14 43 rfl)
theorem dL_law_2127 : decode cL_law 2127 = .ok (.invokevirtual 315, 3) := op_182 (bA_q qh_33 15 182 rfl) (bA_q qh_33 16 1 rfl) (bA_q qh_33 17 59 rfl) rfl
theorem dL_law_2130 : decode cL_law 2130 = .ok (.pop, 1) := op_87 (bA_q qh_33 18 87 rfl)
theorem dL_law_2131 : decode cL_law 2131 = .ok (.aload_n 2, 1) := op_44 (bA_q qh_33 19 44 rfl)
theorem dL_law_2132 : decode cL_law 2132 = .ok (.invokevirtual 318, 3) := op_182 (bA_q qh_33 20 182 rfl) (bA_q qh_33 21 1 rfl) (bA_q qh_33 22 62 rfl) rfl
theorem dL_law_2135 : decode cL_law 2135 = .ok (.pop, 1) := op_87 (bA_q qh_33 23 87 rfl)
theorem dL_law_2136 : decode cL_law 2136 = .ok (.goto 110, 3) := op_167 (bA_q qh_33 24 167 rfl) (bA_q qh_33 25 0 rfl) (bA_q qh_33 26 110 rfl) rfl
theorem dL_law_2139 : decode cL_law 2139 = .ok (.aload_n 1, 1) := op_43 (bA_q qh_33 27 43 rfl)
theorem dL_law_2140 : decode cL_law 2140 = .ok (.aload_n 0, 1) := op_42 (bA_q qh_33 28 42 rfl)
theorem dL_law_2141 : decode cL_law 2141 = .ok (.iload 4, 2) := op_21 (bA_q qh_33 29 21 rfl) (bA_q qh_33 30 4 rfl)
theorem dL_law_2143 : decode cL_law 2143 = .ok (.iconst 1, 1) := op_4 (bA_q qh_33 31 4 rfl)
theorem dL_law_2144 : decode cL_law 2144 = .ok (.iadd, 1) := op_96 (bA_q qh_33 32 96 rfl)
theorem dL_law_2145 : decode cL_law 2145 = .ok (.iaload, 1) := op_46 (bA_q qh_33 33 46 rfl)
theorem dL_law_2146 : decode cL_law 2146 = .ok (.aload_n 0, 1) := op_42 (bA_q qh_33 34 42 rfl)
theorem dL_law_2147 : decode cL_law 2147 = .ok (.iload 4, 2) := op_21 (bA_q qh_33 35 21 rfl) (bA_q qh_33 36 4 rfl)
theorem dL_law_2149 : decode cL_law 2149 = .ok (.iconst 2, 1) := op_5 (bA_q qh_33 37 5 rfl)
theorem dL_law_2150 : decode cL_law 2150 = .ok (.iadd, 1) := op_96 (bA_q qh_33 38 96 rfl)
theorem dL_law_2151 : decode cL_law 2151 = .ok (.iaload, 1) := op_46 (bA_q qh_33 39 46 rfl)
theorem dL_law_2152 : decode cL_law 2152 = .ok (.aload_n 3, 1) := op_45 (bA_q qh_33 40 45 rfl)
theorem dL_law_2153 : decode cL_law 2153 = .ok (.invokestatic 319, 3) := op_184 (bA_q qh_33 41 184 rfl) (bA_q qh_33 42 1 rfl) (bA_q qh_33 43 63 rfl) rfl
theorem dL_law_2156 : decode cL_law 2156 = .ok (.istore 5, 2) := op_54 (bA_q qh_33 44 54 rfl) (bA_q qh_33 45 5 rfl)
theorem dL_law_2158 : decode cL_law 2158 = .ok (.aload_n 2, 1) := op_44 (bA_q qh_33 46 44 rfl)
theorem dL_law_2159 : decode cL_law 2159 = .ok (.aload_n 0, 1) := op_42 (bA_q qh_33 47 42 rfl)
theorem dL_law_2160 : decode cL_law 2160 = .ok (.iload 4, 2) := op_21 (bA_q qh_33 48 21 rfl) (bA_q qh_33 49 4 rfl)
theorem dL_law_2162 : decode cL_law 2162 = .ok (.iconst 1, 1) := op_4 (bA_q qh_33 50 4 rfl)
theorem dL_law_2163 : decode cL_law 2163 = .ok (.iadd, 1) := op_96 (bA_q qh_33 51 96 rfl)
theorem dL_law_2164 : decode cL_law 2164 = .ok (.iaload, 1) := op_46 (bA_q qh_33 52 46 rfl)
theorem dL_law_2165 : decode cL_law 2165 = .ok (.aload_n 0, 1) := op_42 (bA_q qh_33 53 42 rfl)
theorem dL_law_2166 : decode cL_law 2166 = .ok (.iload 4, 2) := op_21 (bA_q qh_33 54 21 rfl) (bA_q qh_33 55 4 rfl)
theorem dL_law_2168 : decode cL_law 2168 = .ok (.iconst 2, 1) := op_5 (bA_q qh_33 56 5 rfl)
theorem dL_law_2169 : decode cL_law 2169 = .ok (.iadd, 1) := op_96 (bA_q qh_33 57 96 rfl)
theorem dL_law_2170 : decode cL_law 2170 = .ok (.iaload, 1) := op_46 (bA_q qh_33 58 46 rfl)
theorem dL_law_2171 : decode cL_law 2171 = .ok (.invokevirtual 321, 3) := op_182 (bA_q qh_33 59 182 rfl) (bA_q qh_33 60 1 rfl) (bA_q qh_33 61 65 rfl) rfl
theorem dL_law_2174 : decode cL_law 2174 = .ok (.istore 6, 2) := op_54 (bA_q qh_33 62 54 rfl) (bA_q qh_33 63 6 rfl)
theorem dL_law_2176 : decode cL_law 2176 = .ok (.goto 70, 3) := op_167 (bA_q qh_34 0 167 rfl) (bA_q qh_34 1 0 rfl) (bA_q qh_34 2 70 rfl) rfl
theorem dL_law_2179 : decode cL_law 2179 = .ok (.aload_n 1, 1) := op_43 (bA_q qh_34 3 43 rfl)
theorem dL_law_2180 : decode cL_law 2180 = .ok (.aload_n 0, 1) := op_42 (bA_q qh_34 4 42 rfl)
theorem dL_law_2181 : decode cL_law 2181 = .ok (.iload 4, 2) := op_21 (bA_q qh_34 5 21 rfl) (bA_q qh_34 6 4 rfl)
theorem dL_law_2183 : decode cL_law 2183 = .ok (.iconst 1, 1) := op_4 (bA_q qh_34 7 4 rfl)
theorem dL_law_2184 : decode cL_law 2184 = .ok (.iadd, 1) := op_96 (bA_q qh_34 8 96 rfl)
theorem dL_law_2185 : decode cL_law 2185 = .ok (.iaload, 1) := op_46 (bA_q qh_34 9 46 rfl)
theorem dL_law_2186 : decode cL_law 2186 = .ok (.aload_n 3, 1) := op_45 (bA_q qh_34 10 45 rfl)
theorem dL_law_2187 : decode cL_law 2187 = .ok (.invokestatic 322, 3) := op_184 (bA_q qh_34 11 184 rfl) (bA_q qh_34 12 1 rfl) (bA_q qh_34 13 66 rfl) rfl
theorem dL_law_2190 : decode cL_law 2190 = .ok (.istore 5, 2) := op_54 (bA_q qh_34 14 54 rfl) (bA_q qh_34 15 5 rfl)
theorem dL_law_2192 : decode cL_law 2192 = .ok (.aload_n 2, 1) := op_44 (bA_q qh_34 16 44 rfl)
theorem dL_law_2193 : decode cL_law 2193 = .ok (.aload_n 0, 1) := op_42 (bA_q qh_34 17 42 rfl)
theorem dL_law_2194 : decode cL_law 2194 = .ok (.iload 4, 2) := op_21 (bA_q qh_34 18 21 rfl) (bA_q qh_34 19 4 rfl)
theorem dL_law_2196 : decode cL_law 2196 = .ok (.iconst 1, 1) := op_4 (bA_q qh_34 20 4 rfl)
theorem dL_law_2197 : decode cL_law 2197 = .ok (.iadd, 1) := op_96 (bA_q qh_34 21 96 rfl)
theorem dL_law_2198 : decode cL_law 2198 = .ok (.iaload, 1) := op_46 (bA_q qh_34 22 46 rfl)
theorem dL_law_2199 : decode cL_law 2199 = .ok (.invokevirtual 324, 3) := op_182 (bA_q qh_34 23 182 rfl) (bA_q qh_34 24 1 rfl) (bA_q qh_34 25 68 rfl) rfl
theorem dL_law_2202 : decode cL_law 2202 = .ok (.istore 6, 2) := op_54 (bA_q qh_34 26 54 rfl) (bA_q qh_34 27 6 rfl)
theorem dL_law_2204 : decode cL_law 2204 = .ok (.goto 42, 3) := op_167 (bA_q qh_34 28 167 rfl) (bA_q qh_34 29 0 rfl) (bA_q qh_34 30 42 rfl) rfl
theorem dL_law_2207 : decode cL_law 2207 = .ok (.aload_n 1, 1) := op_43 (bA_q qh_34 31 43 rfl)
theorem dL_law_2208 : decode cL_law 2208 = .ok (.invokevirtual 325, 3) := op_182 (bA_q qh_34 32 182 rfl) (bA_q qh_34 33 1 rfl) (bA_q qh_34 34 69 rfl) rfl
theorem dL_law_2211 : decode cL_law 2211 = .ok (.pop, 1) := op_87 (bA_q qh_34 35 87 rfl)
theorem dL_law_2212 : decode cL_law 2212 = .ok (.aload_n 2, 1) := op_44 (bA_q qh_34 36 44 rfl)
theorem dL_law_2213 : decode cL_law 2213 = .ok (.invokevirtual 328, 3) := op_182 (bA_q qh_34 37 182 rfl) (bA_q qh_34 38 1 rfl) (bA_q qh_34 39 72 rfl) rfl
theorem dL_law_2216 : decode cL_law 2216 = .ok (.pop, 1) := op_87 (bA_q qh_34 40 87 rfl)
theorem dL_law_2217 : decode cL_law 2217 = .ok (.goto 29, 3) := op_167 (bA_q qh_34 41 167 rfl) (bA_q qh_34 42 0 rfl) (bA_q qh_34 43 29 rfl) rfl
theorem dL_law_2220 : decode cL_law 2220 = .ok (.aload_n 1, 1) := op_43 (bA_q qh_34 44 43 rfl)
theorem dL_law_2221 : decode cL_law 2221 = .ok (.invokevirtual 329, 3) := op_182 (bA_q qh_34 45 182 rfl) (bA_q qh_34 46 1 rfl) (bA_q qh_34 47 73 rfl) rfl
theorem dL_law_2224 : decode cL_law 2224 = .ok (.pop, 1) := op_87 (bA_q qh_34 48 87 rfl)
theorem dL_law_2225 : decode cL_law 2225 = .ok (.aload_n 2, 1) := op_44 (bA_q qh_34 49 44 rfl)
theorem dL_law_2226 : decode cL_law 2226 = .ok (.invokevirtual 333, 3) := op_182 (bA_q qh_34 50 182 rfl) (bA_q qh_34 51 1 rfl) (bA_q qh_34 52 77 rfl) rfl
theorem dL_law_2229 : decode cL_law 2229 = .ok (.pop, 1) := op_87 (bA_q qh_34 53 87 rfl)
theorem dL_law_2230 : decode cL_law 2230 = .ok (.goto 16, 3) := op_167 (bA_q qh_34 54 167 rfl) (bA_q qh_34 55 0 rfl) (bA_q qh_34 56 16 rfl) rfl
theorem dL_law_2233 : decode cL_law 2233 = .ok (.aload_n 1, 1) := op_43 (bA_q qh_34 57 43 rfl)
theorem dL_law_2234 : decode cL_law 2234 = .ok (.invokevirtual 334, 3) := op_182 (bA_q qh_34 58 182 rfl) (bA_q qh_34 59 1 rfl) (bA_q qh_34 60 78 rfl) rfl
theorem dL_law_2237 : decode cL_law 2237 = .ok (.pop2, 1) := by decide +kernel
theorem dL_law_2238 : decode cL_law 2238 = .ok (.aload_n 2, 1) := op_44 (bA_q qh_34 62 44 rfl)
theorem dL_law_2239 : decode cL_law 2239 = .ok (.invokevirtual 338, 3) := op_182 (bA_q qh_34 63 182 rfl) (bA_q qh_34 64 1 rfl) (bA_q qh_34 65 82 rfl) rfl
end
/-! 69.lawd4.lean.txt -/
section
theorem dL_law_2242 : decode cL_law 2242 = .ok (.pop2, 1) := by decide +kernel
theorem dL_law_2243 : decode cL_law 2243 = .ok (.goto 3, 3) := op_167 (bA_q qh_35 3 167 rfl) (bA_q qh_35 4 0 rfl) (bA_q qh_35 5 3 rfl) rfl
theorem dL_law_2246 : decode cL_law 2246 = .ok (.iinc 4 6, 3) := by decide +kernel
theorem dL_law_2249 : decode cL_law 2249 = .ok (.goto (-2222), 3) := op_167 (bA_q qh_35 9 167 rfl) (bA_q qh_35 10 247 rfl) (bA_q qh_35 11 82 rfl) rfl
theorem dL_law_2252 : decode cL_law 2252 = .ok (.iconst 1, 1) := op_4 (bA_q qh_35 12 4 rfl)
theorem dL_law_2253 : decode cL_law 2253 = .ok (.ireturn, 1) := by decide +kernel
end
/-! 69.lawe0.lean.txt -/
section
def ML_law (g : RO) : MT := ((RL, cL_law, 7, 10, 58408, 1451408, false, some .boolean), [(13, 6, 0)], [(8, 5, [.null, .null, .null, .int 0, .int 0, .int 0, .int 0]), (168, 7, [.int 0, .null, .null, .null, .int 0, .int 0, .int 0]), (14, 6, [.long 0, .null])], [], [], [], 0, [(167, 4, 1, 5, 1, (fun _ _ => 3), (fun _ _ => 26), yX1_init, spOf (MX1_init g)), (170, 4, 1, 7, 7, (fun _ _ => 9), (fun _ _ => 104), yX3_init, spOf (MX3_init g)), (171, 10, 1, 6, 1, (fun _ _ => 0), (fun _ _ => 0), yX2_init, spOf (MX2_init g)), (172, 9, 5, 0, 8, (fun _ _ => 1), (fun _ _ => 6), yL_set, spOf (ML_set g)), (177, 2, 4, 7, 3, (fun _ _ => 0), (fun _ _ => 0), yX3_set, spOf (MX3_set g)), (178, 9, 4, 0, 8, (fun _ _ => 1), (fun _ _ => 6), yL_setSmall, spOf (ML_setSmall g)), (181, 2, 3, 7, 3, (fun _ _ => 0), (fun _ _ => 0), yX3_setSmall, spOf (MX3_setSmall g)), (182, 9, 4, 0, 8, (fun _ _ => 2), (fun _ _ => 12), yL_setEnd, spOf (ML_setEnd g)), (184, 2, 3, 7, 3, (fun _ _ => 1), (fun _ _ => 4), yX3_setEnd, spOf (MX3_setEnd g)), (185, 9, 4, 0, 8, (fun _ _ => 1), (fun _ _ => 6), yL_move, spOf (ML_move g)), (187, 2, 3, 7, 3, (fun _ _ => 0), (fun _ _ => 0), yX3_move, spOf (MX3_move g)), (188, 2, 1, 7, 1, (fun _ _ => 0), (fun _ _ => 0), yX3_thrown, spOf (MX3_thrown g)), (192, 9, 4, 0, 8, (fun _ _ => 2), (fun _ _ => 12), yL_copy, spOf (ML_copy g)), (194, 2, 3, 7, 3, (fun _ _ => 0), (fun _ _ => 0), yX3_copy, spOf (MX3_copy g)), (195, 9, 4, 0, 8, (fun _ _ => 1), (fun _ _ => 6), yL_ofNumber, spOf (ML_ofNumber g)), (198, 2, 3, 7, 3, (fun _ _ => 0), (fun _ _ => 0), yX3_ofNumber, spOf (MX3_ofNumber g)), (199, 9, 3, 0, 8, (fun _ _ => 8), (fun _ _ => 366), yL_numberText, spOf (ML_numberText g)), (202, 2, 2, 7, 7, (fun _ _ => 6), (fun _ _ => 454), yX3_numberText, spOf (MX3_numberText g)), (203, 9, 4, 0, 8, (fun _ _ => 2), (fun _ _ => 12), yL_order, spOf (ML_order g)), (205, 2, 3, 7, 3, (fun _ _ => 0), (fun _ _ => 0), yX3_order, spOf (MX3_order g)), (206, 9, 5, 0, 8, (fun _ _ => 4), (fun _ _ => 22), yL_two, spOf (ML_two g)), (208, 2, 4, 7, 5, (fun _ _ => 1), (fun _ _ => 4), yX3_two, spOf (MX3_two g)), (209, 9, 6, 0, 8, (fun _ _ => 5), (fun _ _ => 28), yL_three, spOf (ML_three g)), (212, 2, 5, 7, 5, (fun _ _ => 1), (fun _ _ => 4), yX3_three, spOf (MX3_three g)), (213, 9, 7, 0, 8, (fun _ _ => 6), (fun _ _ => 34), yL_four, spOf (ML_four g)), (216, 2, 6, 7, 5, (fun _ _ => 1), (fun _ _ => 4), yX3_four, spOf (MX3_four g)), (217, 9, 5, 0, 8, (fun _ _ => 2), (fun _ _ => 10), yL_twoSmall, spOf (ML_twoSmall g)), (219, 2, 4, 7, 5, (fun _ _ => 1), (fun _ _ => 4), yX3_twoSmall, spOf (MX3_twoSmall g)), (220, 9, 6, 0, 8, (fun _ _ => 2), (fun _ _ => 10), yL_threeSmall, spOf (ML_threeSmall g)), (222, 2, 5, 7, 5, (fun _ _ => 1), (fun _ _ => 4), yX3_threeSmall, spOf (MX3_threeSmall g)), (223, 9, 7, 0, 8, (fun _ _ => 2), (fun _ _ => 10), yL_fourSmall, spOf (ML_fourSmall g)), (225, 2, 6, 7, 5, (fun _ _ => 1), (fun _ _ => 4), yX3_fourSmall, spOf (MX3_fourSmall g)), (226, 9, 4, 0, 9, (fun _ _ => 4), (fun _ _ => 22), yL_again, spOf (ML_again g)), (228, 2, 3, 7, 6, (fun _ _ => 1), (fun _ _ => 4), yX3_again, spOf (MX3_again g)), (229, 9, 4, 0, 9, (fun _ _ => 3), (fun _ _ => 18), yL_same, spOf (ML_same g)), (231, 2, 3, 7, 6, (fun _ _ => 0), (fun _ _ => 0), yX3_same_, spOf (MX3_same_ g)), (232, 9, 4, 0, 9, (fun _ _ => 4), (fun _ _ => 22), yL_outer, spOf (ML_outer g)), (234, 2, 3, 7, 6, (fun _ _ => 1), (fun _ _ => 4), yX3_outer, spOf (MX3_outer g)), (235, 9, 4, 0, 9, (fun _ _ => 4), (fun _ _ => 22), yL_inner, spOf (ML_inner g)), (237, 2, 3, 7, 6, (fun _ _ => 1), (fun _ _ => 4), yX3_inner, spOf (MX3_inner g)), (238, 9, 5, 0, 9, (fun _ _ => 8), (fun _ _ => 46), yL_span, spOf (ML_span g)), (240, 2, 4, 7, 5, (fun _ _ => 1), (fun _ _ => 4), yX3_span, spOf (MX3_span g)), (241, 9, 4, 0, 9, (fun _ _ => 3), (fun _ _ => 16), yL_shift, spOf (ML_shift g)), (243, 2, 3, 7, 6, (fun _ _ => 1), (fun _ _ => 4), yX3_shift, spOf (MX3_shift g)), (244, 9, 3, 0, 8, (fun _ _ => 1), (fun _ _ => 6), yL_drop, spOf (ML_drop g)), (246, 2, 2, 7, 5, (fun _ _ => 0), (fun _ _ => 0), yX3_drop, spOf (MX3_drop g)), (247, 9, 3, 0, 8, (fun _ _ => 1), (fun _ _ => 6), yL_isThere, spOf (ML_isThere g)), (249, 2, 2, 7, 5, (fun _ _ => 0), (fun _ _ => 0), yX3_isThere, spOf (MX3_isThere g)), (250, 9, 3, 0, 9, (fun _ _ => 2), (fun _ _ => 12), yL_isFixed, spOf (ML_isFixed g)), (252, 2, 2, 7, 6, (fun _ _ => 0), (fun _ _ => 0), yX3_isFixed, spOf (MX3_isFixed g)), (253, 9, 3, 0, 9, (fun _ _ => 2), (fun _ _ => 12), yL_isSmall, spOf (ML_isSmall g)), (255, 2, 2, 7, 6, (fun _ _ => 0), (fun _ _ => 0), yX3_isSmall, spOf (MX3_isSmall g)), (256, 9, 5, 0, 9, (fun _ _ => 4), (fun _ _ => 24), yL_end, spOf (ML_end g)), (259, 2, 4, 7, 6, (fun _ _ => 0), (fun _ _ => 0), yX3_end, spOf (MX3_end g)), (260, 9, 5, 0, 9, (fun _ _ => 5), (fun _ _ => 30), yL_take, spOf (ML_take g)), (262, 2, 4, 7, 5, (fun _ _ => 0), (fun _ _ => 0), yX3_take, spOf (MX3_take g)), (263, 9, 3, 0, 8, (fun _ _ => 19), (fun _ _ => 1530), yL_cardText, spOf (ML_cardText g)), (265, 2, 2, 7, 7, (fun _ _ => 11), (fun _ _ => 1304), yX3_cardText, spOf (MX3_cardText g)), (266, 9, 4, 0, 9, (fun _ _ => 4), (fun _ _ => 24), yL_isValid, spOf (ML_isValid g)), (268, 2, 3, 7, 6, (fun _ _ => 0), (fun _ _ => 0), yX3_isValid, spOf (MX3_isValid g)), (269, 9, 4, 0, 9, (fun _ _ => 4), (fun _ _ => 24), yL_isValidSmall, spOf (ML_isValidSmall g)), (271, 2, 3, 7, 6, (fun _ _ => 0), (fun _ _ => 0), yX3_isValidSmall, spOf (MX3_isValidSmall g)), (272, 9, 4, 0, 9, (fun _ _ => 2), (fun _ _ => 12), yL_whichValid, spOf (ML_whichValid g)), (274, 2, 3, 7, 6, (fun _ _ => 0), (fun _ _ => 0), yX3_whichValid, spOf (MX3_whichValid g)), (275, 9, 5, 0, 9, (fun _ _ => 4), (fun _ _ => 24), yL_around, spOf (ML_around g)), (277, 2, 4, 7, 6, (fun _ _ => 0), (fun _ _ => 0), yX3_around, spOf (MX3_around g)), (278, 9, 5, 0, 9, (fun _ _ => 4), (fun _ _ => 24), yL_count, spOf (ML_count g)), (280, 2, 4, 7, 5, (fun _ _ => 0), (fun _ _ => 0), yX3_count, spOf (MX3_count g)), (281, 9, 4, 0, 8, (fun _ _ => 2), (fun _ _ => 12), yL_who, spOf (ML_who g)), (283, 2, 3, 7, 6, (fun _ _ => 0), (fun _ _ => 0), yX3_who, spOf (MX3_who g)), (284, 9, 3, 0, 8, (fun _ _ => 1), (fun _ _ => 6), yL_which, spOf (ML_which g)), (286, 2, 2, 7, 6, (fun _ _ => 0), (fun _ _ => 0), yX3_which, spOf (MX3_which g)), (287, 9, 4, 0, 9, (fun _ _ => 6), (fun _ _ => 36), yL_areSame, spOf (ML_areSame g)), (289, 2, 3, 7, 5, (fun _ _ => 0), (fun _ _ => 0), yX3_areSame, spOf (MX3_areSame g)), (290, 9, 4, 0, 9, (fun _ _ => 6), (fun _ _ => 32), yL_isSameAs, spOf (ML_isSameAs g)), (292, 2, 3, 7, 5, (fun _ _ => 0), (fun _ _ => 0), yX3_isSameAs, spOf (MX3_isSameAs g)), (293, 9, 3, 0, 9, (fun _ _ => 2), (fun _ _ => 12), yL_likes, spOf (ML_likes g)), (295, 2, 2, 7, 6, (fun _ _ => 0), (fun _ _ => 0), yX3_likes, spOf (MX3_likes g)), (296, 9, 3, 0, 9, (fun _ _ => 2), (fun _ _ => 12), yL_lay, spOf (ML_lay g)), (298, 2, 2, 7, 7, (fun _ _ => 1), (fun _ _ => 15), yX3_lay, spOf (MX3_lay g)), (299, 9, 4, 0, 9, (fun _ _ => 2), (fun _ _ => 12), yL_seek, spOf (ML_seek g)), (301, 2, 3, 7, 6, (fun _ _ => 0), (fun _ _ => 0), yX3_seek, spOf (MX3_seek g)), (302, 9, 3, 0, 9, (fun _ _ => 2), (fun _ _ => 12), yL_howOften, spOf (ML_howOften g)), (304, 2, 2, 7, 6, (fun _ _ => 1), (fun _ _ => 4), yX3_howOften, spOf (MX3_howOften g)), (305, 9, 3, 0, 9, (fun _ _ => 2), (fun _ _ => 12), yL_lift, spOf (ML_lift g)), (307, 2, 2, 7, 6, (fun _ _ => 0), (fun _ _ => 0), yX3_lift, spOf (MX3_lift g)), (308, 9, 4, 0, 8, (fun _ _ => 2), (fun _ _ => 12), yL_pick, spOf (ML_pick g)), (310, 2, 3, 7, 5, (fun _ _ => 0), (fun _ _ => 0), yX3_pick, spOf (MX3_pick g)), (311, 2, 1, 5, 1, (fun _ _ => 0), (fun _ _ => 0), yX1_turn, spOf (MX1_turn g)), (314, 2, 1, 7, 6, (fun _ _ => 14), (fun _ _ => 187), yX3_turn, spOf (MX3_turn g)), (315, 2, 1, 5, 1, (fun _ _ => 0), (fun _ _ => 0), yX1_sweep, spOf (MX1_sweep g)), (318, 2, 1, 7, 4, (fun _ _ => 1), (fun _ _ => 3), yX3_sweep, spOf (MX3_sweep g)), (319, 9, 4, 0, 8, (fun _ _ => 2), (fun _ _ => 12), yL_pile, spOf (ML_pile g)), (321, 2, 3, 7, 6, (fun _ _ => 12), (fun _ _ => 72), yX3_pile, spOf (MX3_pile g)), (322, 9, 3, 0, 8, (fun _ _ => 1), (fun _ _ => 6), yL_house, spOf (ML_house g)), (324, 2, 2, 7, 4, (fun _ _ => 2), (fun _ _ => 9), yX3_house, spOf (MX3_house g)), (325, 2, 1, 5, 1, (fun _ _ => 0), (fun _ _ => 0), yX1_knock, spOf (MX1_knock g)), (328, 2, 1, 7, 1, (fun _ _ => 0), (fun _ _ => 0), yX3_knock, spOf (MX3_knock g)), (329, 2, 1, 5, 6, (fun _ _ => 24), (fun _ _ => 96), yX1_isSound, spOf (MX1_isSound g)), (333, 2, 1, 7, 1, (fun _ _ => 0), (fun _ _ => 0), yX3_isSound, spOf (MX3_isSound g)), (334, 2, 1, 5, 7, (fun _ _ => 24), (fun _ _ => 96), yX1_digest, spOf (MX1_digest g)), (338, 2, 1, 7, 6, (fun _ _ => 90), (fun _ _ => 520), yX3_digest, spOf (MX3_digest g))], [], [], 0, [], [], g)
section
variable {g : RO} {Q : Ot → Hw → Prop} {st : List Value} {w : Hw} {k n p q : Nat} {a b : Int32} {x y : Int64} {u v : Value} {l0 l1 l2 l3 l4 l5 l6 : Option Value}
theorem eL_law_0 : WP (ML_law g) Q (0, [l0, l1, l2, l3, l4, l5, l6], st, w, k, n) = (k + 1 ≤ 58408 ∧ n + 7 ≤ 1451408 ∧ ∀ q : Nat, rd g w q = none → WP (ML_law g) Q (3, [l0, l1, l2, l3, l4, l5, l6], .ref q :: st, upw w q (.inr (5, [.null, .null, .null, .int 0, .int 0, .int 0, .int 0])), k + 1, n + 7)) := Eq.trans (new_e (M := (ML_law g)) (fs := [.null, .null, .null, .int 0, .int 0, .int 0, .int 0]) rfl dL_law_0 rfl) rfl
theorem eL_law_3R : WP (ML_law g) Q (3, [l0, l1, l2, l3, l4, l5, l6], .ref p :: st, w, k, n) = WP (ML_law g) Q (4, [l0, l1, l2, l3, l4, l5, l6], .ref p :: .ref p :: st, w, k, n) := by rw [WP_at (M := (ML_law g)) rfl dL_law_3 (Or.inr rfl)]; exact and_t rfl
theorem eL_law_4  : WP (ML_law g) Q (4, [l0, l1, l2, l3, l4, l5, l6], .ref p :: st, w, k, n) = (wt st ≤ 8 ∧ k + 3 ≤ 58408 ∧ n + 26 ≤ 1451408 ∧ WP (MX1_init g) (kx (fun v w' => WP (ML_law g) Q (7, [l0, l1, l2, l3, l4, l5, l6], v.toList ++ st, w', k + 3, n + 26)) (fun E w' => Q (.inr E) w')) (0, [some (.ref p)], [], w, 0, 0)) := csI (M := (ML_law g)) (mc := (fun _ _ => 3)) (ms := (fun _ _ => 26)) (As := []) (rest := st) (MX1_init g) rfl rfl dL_law_4 (Nat.ne_of_beq_eq_false rfl) rfl rfl (Nat.le_of_ble_eq_true rfl) (Nat.le_of_ble_eq_true rfl) rfl
theorem eL_law_7 : WP (ML_law g) Q (7, [l0, l1, l2, l3, l4, l5, l6], .ref p :: st, w, k, n) = WP (ML_law g) Q (8, [nl l0, some (.ref p), l2, l3, l4, l5, l6], st, w, k, n) := by rw [WP_at (M := (ML_law g)) rfl dL_law_7 (Or.inr rfl)]; exact and_t (Nat.le_of_ble_eq_true rfl)
theorem eL_law_8 : WP (ML_law g) Q (8, [l0, l1, l2, l3, l4, l5, l6], st, w, k, n) = (k + 1 ≤ 58408 ∧ n + 7 ≤ 1451408 ∧ ∀ q : Nat, rd g w q = none → WP (ML_law g) Q (11, [l0, l1, l2, l3, l4, l5, l6], .ref q :: st, upw w q (.inr (7, [.int 0, .null, .null, .null, .int 0, .int 0, .int 0])), k + 1, n + 7)) := Eq.trans (new_e (M := (ML_law g)) (fs := [.int 0, .null, .null, .null, .int 0, .int 0, .int 0]) rfl dL_law_8 rfl) rfl
theorem eL_law_11R : WP (ML_law g) Q (11, [l0, l1, l2, l3, l4, l5, l6], .ref p :: st, w, k, n) = WP (ML_law g) Q (12, [l0, l1, l2, l3, l4, l5, l6], .ref p :: .ref p :: st, w, k, n) := by rw [WP_at (M := (ML_law g)) rfl dL_law_11 (Or.inr rfl)]; exact and_t rfl
theorem eL_law_12  : WP (ML_law g) Q (12, [l0, l1, l2, l3, l4, l5, l6], .ref p :: st, w, k, n) = (wt st ≤ 8 ∧ k + 9 ≤ 58408 ∧ n + 104 ≤ 1451408 ∧ WP (MX3_init g) (kx (fun v w' => WP (ML_law g) Q (15, [l0, l1, l2, l3, l4, l5, l6], v.toList ++ st, w', k + 9, n + 104)) (fun E w' => Q (.inr E) w')) (0, [some (.ref p), none], [], w, 0, 0)) := csI (M := (ML_law g)) (mc := (fun _ _ => 9)) (ms := (fun _ _ => 104)) (As := []) (rest := st) (MX3_init g) rfl rfl dL_law_12 (Nat.ne_of_beq_eq_false rfl) rfl rfl (Nat.le_of_ble_eq_true rfl) (Nat.le_of_ble_eq_true rfl) rfl
theorem eL_law_15 : WP (ML_law g) Q (15, [l0, l1, l2, l3, l4, l5, l6], .ref p :: st, w, k, n) = WP (ML_law g) Q (16, [l0, nl l1, some (.ref p), l3, l4, l5, l6], st, w, k, n) := by rw [WP_at (M := (ML_law g)) rfl dL_law_15 (Or.inr rfl)]; exact and_t (Nat.le_of_ble_eq_true rfl)
theorem eL_law_16 : WP (ML_law g) Q (16, [l0, l1, l2, l3, l4, l5, l6], st, w, k, n) = (k + 1 ≤ 58408 ∧ n + 2 ≤ 1451408 ∧ ∀ q : Nat, rd g w q = none → WP (ML_law g) Q (19, [l0, l1, l2, l3, l4, l5, l6], .ref q :: st, upw w q (.inr (6, [.long 0, .null])), k + 1, n + 2)) := Eq.trans (new_e (M := (ML_law g)) (fs := [.long 0, .null]) rfl dL_law_16 rfl) rfl
theorem eL_law_19R : WP (ML_law g) Q (19, [l0, l1, l2, l3, l4, l5, l6], .ref p :: st, w, k, n) = WP (ML_law g) Q (20, [l0, l1, l2, l3, l4, l5, l6], .ref p :: .ref p :: st, w, k, n) := by rw [WP_at (M := (ML_law g)) rfl dL_law_19 (Or.inr rfl)]; exact and_t rfl
theorem eL_law_20  : WP (ML_law g) Q (20, [l0, l1, l2, l3, l4, l5, l6], .ref p :: st, w, k, n) = (go (rd g w p) 6 (fun _ => True) ∧ wt st ≤ 8 ∧ k + 0 ≤ 58408 ∧ n + 0 ≤ 1451408 ∧ WP (MX2_init g) (kx (fun v w' => WP (ML_law g) Q (23, [l0, l1, l2, l3, l4, l5, l6], v.toList ++ st, w', k + 0, n + 0)) (fun E w' => Q (.inr E) w')) (0, [some (.ref p)], [], w, 0, 0)) := csU (M := (ML_law g)) (mc := (fun _ _ => 0)) (ms := (fun _ _ => 0)) (As := []) (rest := st) (MX2_init g) rfl rfl dL_law_20 (Nat.ne_of_beq_eq_false rfl) rfl rfl (by decide) (Nat.le_of_ble_eq_true rfl) (Nat.le_of_ble_eq_true rfl) rfl
theorem eL_law_23 : WP (ML_law g) Q (23, [l0, l1, l2, l3, l4, l5, l6], .ref p :: st, w, k, n) = WP (ML_law g) Q (24, [l0, l1, nl l2, some (.ref p), l4, l5, l6], st, w, k, n) := by rw [WP_at (M := (ML_law g)) rfl dL_law_23 (Or.inr rfl)]; exact and_t (Nat.le_of_ble_eq_true rfl)
theorem eL_law_24 : WP (ML_law g) Q (24, [l0, l1, l2, l3, l4, l5, l6], st, w, k, n) = WP (ML_law g) Q (25, [l0, l1, l2, l3, l4, l5, l6], .int 0 :: st, w, k, n) := iconst_e rfl dL_law_24 (by decide)
theorem eL_law_25 : WP (ML_law g) Q (25, [l0, l1, l2, l3, l4, l5, l6], .int a :: st, w, k, n) = WP (ML_law g) Q (27, [l0, l1, l2, nl l3, some (.int a), l5, l6], st, w, k, n) := by rw [WP_at (M := (ML_law g)) rfl dL_law_25 (Or.inr rfl)]; exact and_t (Nat.le_of_ble_eq_true rfl)
theorem eL_law_27 : WP (ML_law g) Q (27, [l0, l1, l2, l3, some (.int a), l5, l6], st, w, k, n) = WP (ML_law g) Q (29, [l0, l1, l2, l3, some (.int a), l5, l6], .int a :: st, w, k, n) := Eq.trans (WP_at (M := (ML_law g)) rfl dL_law_27 (Or.inr rfl)) rfl
theorem eL_law_29 : WP (ML_law g) Q (29, [some (.ref p), l1, l2, l3, l4, l5, l6], st, w, k, n) = WP (ML_law g) Q (30, [some (.ref p), l1, l2, l3, l4, l5, l6], .ref p :: st, w, k, n) := Eq.trans (WP_at (M := (ML_law g)) rfl dL_law_29 (Or.inr rfl)) rfl
theorem eL_law_29N : WP (ML_law g) Q (29, [some .null, l1, l2, l3, l4, l5, l6], st, w, k, n) = WP (ML_law g) Q (30, [some .null, l1, l2, l3, l4, l5, l6], .null :: st, w, k, n) := Eq.trans (WP_at (M := (ML_law g)) rfl dL_law_29 (Or.inr rfl)) rfl
theorem eL_law_30 : WP (ML_law g) Q (30, [l0, l1, l2, l3, l4, l5, l6], .ref p :: st, w, k, n) = ∃ t z, rd g w p = some (.inl (t, z)) ∧ t < 6 ∧ WP (ML_law g) Q (31, [l0, l1, l2, l3, l4, l5, l6], .int (Int32.ofNat z.1) :: st, w, k, n) := Eq.trans (WP_at (M := (ML_law g)) rfl dL_law_30 (Or.inr rfl)) rfl
theorem eL_law_31 : WP (ML_law g) Q (31, [l0, l1, l2, l3, l4, l5, l6], st, w, k, n) = WP (ML_law g) Q (33, [l0, l1, l2, l3, l4, l5, l6], .int 6 :: st, w, k, n) := bipush_e rfl dL_law_31 (by decide)
theorem eL_law_33 : WP (ML_law g) Q (33, [l0, l1, l2, l3, l4, l5, l6], .int b :: .int a :: st, w, k, n) = WP (ML_law g) Q (34, [l0, l1, l2, l3, l4, l5, l6], .int (a - b) :: st, w, k, n) := Eq.trans (WP_at (M := (ML_law g)) rfl dL_law_33 (Or.inr rfl)) rfl
theorem eL_law_34 : WP (ML_law g) Q (34, [l0, l1, l2, l3, l4, l5, l6], .int b :: .int a :: st, w, k, n) = if b < a then WP (ML_law g) Q (2252, [l0, l1, l2, l3, l4, l5, l6], st, w, k, n) else WP (ML_law g) Q (37, [l0, l1, l2, l3, l4, l5, l6], st, w, k, n) := icm_e (b < a) rfl dL_law_34 rfl (by decide)
theorem eL_law_37 : WP (ML_law g) Q (37, [some (.ref p), l1, l2, l3, l4, l5, l6], st, w, k, n) = WP (ML_law g) Q (38, [some (.ref p), l1, l2, l3, l4, l5, l6], .ref p :: st, w, k, n) := Eq.trans (WP_at (M := (ML_law g)) rfl dL_law_37 (Or.inr rfl)) rfl
theorem eL_law_37N : WP (ML_law g) Q (37, [some .null, l1, l2, l3, l4, l5, l6], st, w, k, n) = WP (ML_law g) Q (38, [some .null, l1, l2, l3, l4, l5, l6], .null :: st, w, k, n) := Eq.trans (WP_at (M := (ML_law g)) rfl dL_law_37 (Or.inr rfl)) rfl
theorem eL_law_38 : WP (ML_law g) Q (38, [l0, l1, l2, l3, some (.int a), l5, l6], st, w, k, n) = WP (ML_law g) Q (40, [l0, l1, l2, l3, some (.int a), l5, l6], .int a :: st, w, k, n) := Eq.trans (WP_at (M := (ML_law g)) rfl dL_law_38 (Or.inr rfl)) rfl
theorem eL_law_40 : WP (ML_law g) Q (40, [l0, l1, l2, l3, l4, l5, l6], .int a :: .ref p :: st, w, k, n) = gi (rd g w p) 1 fun N f => vp_in a N ∧ WP (ML_law g) Q (41, [l0, l1, l2, l3, l4, l5, l6], .int (f a.toNatClampNeg) :: st, w, k, n) := Eq.trans (WP_at (M := (ML_law g)) rfl dL_law_40 (Or.inr rfl)) rfl
theorem eL_law_41 : WP (ML_law g) Q (41, [l0, l1, l2, l3, l4, l5, l6], st, w, k, n) = WP (ML_law g) Q (43, [l0, l1, l2, l3, l4, l5, l6], .int 63 :: st, w, k, n) := bipush_e rfl dL_law_41 (by decide)
theorem eL_law_43 : WP (ML_law g) Q (43, [l0, l1, l2, l3, l4, l5, l6], .int b :: .int a :: st, w, k, n) = WP (ML_law g) Q (44, [l0, l1, l2, l3, l4, l5, l6], .int (a &&& b) :: st, w, k, n) := Eq.trans (WP_at (M := (ML_law g)) rfl dL_law_43 (Or.inr rfl)) rfl
theorem eL_law_44_0 : WP (ML_law g) Q (44, [l0, l1, l2, l3, l4, l5, l6], .int 0 :: st, w, k, n) = WP (ML_law g) Q (256, [l0, l1, l2, l3, l4, l5, l6], st, w, k, n) := tsw_e (off := 212) rfl dL_law_44 (by decide) (by decide) (by decide) (by decide) (by decide)
theorem eL_law_44_1 : WP (ML_law g) Q (44, [l0, l1, l2, l3, l4, l5, l6], .int 1 :: st, w, k, n) = WP (ML_law g) Q (308, [l0, l1, l2, l3, l4, l5, l6], st, w, k, n) := tsw_e (off := 264) rfl dL_law_44 (by decide) (by decide) (by decide) (by decide) (by decide)
theorem eL_law_44_2 : WP (ML_law g) Q (44, [l0, l1, l2, l3, l4, l5, l6], .int 2 :: st, w, k, n) = WP (ML_law g) Q (348, [l0, l1, l2, l3, l4, l5, l6], st, w, k, n) := tsw_e (off := 304) rfl dL_law_44 (by decide) (by decide) (by decide) (by decide) (by decide)
theorem eL_law_44_3 : WP (ML_law g) Q (44, [l0, l1, l2, l3, l4, l5, l6], .int 3 :: st, w, k, n) = WP (ML_law g) Q (388, [l0, l1, l2, l3, l4, l5, l6], st, w, k, n) := tsw_e (off := 344) rfl dL_law_44 (by decide) (by decide) (by decide) (by decide) (by decide)
theorem eL_law_44_4 : WP (ML_law g) Q (44, [l0, l1, l2, l3, l4, l5, l6], .int 4 :: st, w, k, n) = WP (ML_law g) Q (457, [l0, l1, l2, l3, l4, l5, l6], st, w, k, n) := tsw_e (off := 413) rfl dL_law_44 (by decide) (by decide) (by decide) (by decide) (by decide)
theorem eL_law_44_5 : WP (ML_law g) Q (44, [l0, l1, l2, l3, l4, l5, l6], .int 5 :: st, w, k, n) = WP (ML_law g) Q (497, [l0, l1, l2, l3, l4, l5, l6], st, w, k, n) := tsw_e (off := 453) rfl dL_law_44 (by decide) (by decide) (by decide) (by decide) (by decide)
theorem eL_law_44_6 : WP (ML_law g) Q (44, [l0, l1, l2, l3, l4, l5, l6], .int 6 :: st, w, k, n) = WP (ML_law g) Q (553, [l0, l1, l2, l3, l4, l5, l6], st, w, k, n) := tsw_e (off := 509) rfl dL_law_44 (by decide) (by decide) (by decide) (by decide) (by decide)
theorem eL_law_44_7 : WP (ML_law g) Q (44, [l0, l1, l2, l3, l4, l5, l6], .int 7 :: st, w, k, n) = WP (ML_law g) Q (581, [l0, l1, l2, l3, l4, l5, l6], st, w, k, n) := tsw_e (off := 537) rfl dL_law_44 (by decide) (by decide) (by decide) (by decide) (by decide)
theorem eL_law_44_8 : WP (ML_law g) Q (44, [l0, l1, l2, l3, l4, l5, l6], .int 8 :: st, w, k, n) = WP (ML_law g) Q (621, [l0, l1, l2, l3, l4, l5, l6], st, w, k, n) := tsw_e (off := 577) rfl dL_law_44 (by decide) (by decide) (by decide) (by decide) (by decide)
theorem eL_law_44_9 : WP (ML_law g) Q (44, [l0, l1, l2, l3, l4, l5, l6], .int 9 :: st, w, k, n) = WP (ML_law g) Q (673, [l0, l1, l2, l3, l4, l5, l6], st, w, k, n) := tsw_e (off := 629) rfl dL_law_44 (by decide) (by decide) (by decide) (by decide) (by decide)
theorem eL_law_44_10 : WP (ML_law g) Q (44, [l0, l1, l2, l3, l4, l5, l6], .int 10 :: st, w, k, n) = WP (ML_law g) Q (737, [l0, l1, l2, l3, l4, l5, l6], st, w, k, n) := tsw_e (off := 693) rfl dL_law_44 (by decide) (by decide) (by decide) (by decide) (by decide)
theorem eL_law_44_11 : WP (ML_law g) Q (44, [l0, l1, l2, l3, l4, l5, l6], .int 11 :: st, w, k, n) = WP (ML_law g) Q (813, [l0, l1, l2, l3, l4, l5, l6], st, w, k, n) := tsw_e (off := 769) rfl dL_law_44 (by decide) (by decide) (by decide) (by decide) (by decide)
theorem eL_law_44_12 : WP (ML_law g) Q (44, [l0, l1, l2, l3, l4, l5, l6], .int 12 :: st, w, k, n) = WP (ML_law g) Q (865, [l0, l1, l2, l3, l4, l5, l6], st, w, k, n) := tsw_e (off := 821) rfl dL_law_44 (by decide) (by decide) (by decide) (by decide) (by decide)
theorem eL_law_44_13 : WP (ML_law g) Q (44, [l0, l1, l2, l3, l4, l5, l6], .int 13 :: st, w, k, n) = WP (ML_law g) Q (929, [l0, l1, l2, l3, l4, l5, l6], st, w, k, n) := tsw_e (off := 885) rfl dL_law_44 (by decide) (by decide) (by decide) (by decide) (by decide)
theorem eL_law_44_14 : WP (ML_law g) Q (44, [l0, l1, l2, l3, l4, l5, l6], .int 14 :: st, w, k, n) = WP (ML_law g) Q (1005, [l0, l1, l2, l3, l4, l5, l6], st, w, k, n) := tsw_e (off := 961) rfl dL_law_44 (by decide) (by decide) (by decide) (by decide) (by decide)
theorem eL_law_44_15 : WP (ML_law g) Q (44, [l0, l1, l2, l3, l4, l5, l6], .int 15 :: st, w, k, n) = WP (ML_law g) Q (1045, [l0, l1, l2, l3, l4, l5, l6], st, w, k, n) := tsw_e (off := 1001) rfl dL_law_44 (by decide) (by decide) (by decide) (by decide) (by decide)
theorem eL_law_44_16 : WP (ML_law g) Q (44, [l0, l1, l2, l3, l4, l5, l6], .int 16 :: st, w, k, n) = WP (ML_law g) Q (1085, [l0, l1, l2, l3, l4, l5, l6], st, w, k, n) := tsw_e (off := 1041) rfl dL_law_44 (by decide) (by decide) (by decide) (by decide) (by decide)
theorem eL_law_44_17 : WP (ML_law g) Q (44, [l0, l1, l2, l3, l4, l5, l6], .int 17 :: st, w, k, n) = WP (ML_law g) Q (1125, [l0, l1, l2, l3, l4, l5, l6], st, w, k, n) := tsw_e (off := 1081) rfl dL_law_44 (by decide) (by decide) (by decide) (by decide) (by decide)
theorem eL_law_44_18 : WP (ML_law g) Q (44, [l0, l1, l2, l3, l4, l5, l6], .int 18 :: st, w, k, n) = WP (ML_law g) Q (1165, [l0, l1, l2, l3, l4, l5, l6], st, w, k, n) := tsw_e (off := 1121) rfl dL_law_44 (by decide) (by decide) (by decide) (by decide) (by decide)
theorem eL_law_44_19 : WP (ML_law g) Q (44, [l0, l1, l2, l3, l4, l5, l6], .int 19 :: st, w, k, n) = WP (ML_law g) Q (1217, [l0, l1, l2, l3, l4, l5, l6], st, w, k, n) := tsw_e (off := 1173) rfl dL_law_44 (by decide) (by decide) (by decide) (by decide) (by decide)
theorem eL_law_44_20 : WP (ML_law g) Q (44, [l0, l1, l2, l3, l4, l5, l6], .int 20 :: st, w, k, n) = WP (ML_law g) Q (1257, [l0, l1, l2, l3, l4, l5, l6], st, w, k, n) := tsw_e (off := 1213) rfl dL_law_44 (by decide) (by decide) (by decide) (by decide) (by decide)
theorem eL_law_44_21 : WP (ML_law g) Q (44, [l0, l1, l2, l3, l4, l5, l6], .int 21 :: st, w, k, n) = WP (ML_law g) Q (1285, [l0, l1, l2, l3, l4, l5, l6], st, w, k, n) := tsw_e (off := 1241) rfl dL_law_44 (by decide) (by decide) (by decide) (by decide) (by decide)
theorem eL_law_44_22 : WP (ML_law g) Q (44, [l0, l1, l2, l3, l4, l5, l6], .int 22 :: st, w, k, n) = WP (ML_law g) Q (1313, [l0, l1, l2, l3, l4, l5, l6], st, w, k, n) := tsw_e (off := 1269) rfl dL_law_44 (by decide) (by decide) (by decide) (by decide) (by decide)
theorem eL_law_44_23 : WP (ML_law g) Q (44, [l0, l1, l2, l3, l4, l5, l6], .int 23 :: st, w, k, n) = WP (ML_law g) Q (1341, [l0, l1, l2, l3, l4, l5, l6], st, w, k, n) := tsw_e (off := 1297) rfl dL_law_44 (by decide) (by decide) (by decide) (by decide) (by decide)
theorem eL_law_44_24 : WP (ML_law g) Q (44, [l0, l1, l2, l3, l4, l5, l6], .int 24 :: st, w, k, n) = WP (ML_law g) Q (1369, [l0, l1, l2, l3, l4, l5, l6], st, w, k, n) := tsw_e (off := 1325) rfl dL_law_44 (by decide) (by decide) (by decide) (by decide) (by decide)
theorem eL_law_44_25 : WP (ML_law g) Q (44, [l0, l1, l2, l3, l4, l5, l6], .int 25 :: st, w, k, n) = WP (ML_law g) Q (1437, [l0, l1, l2, l3, l4, l5, l6], st, w, k, n) := tsw_e (off := 1393) rfl dL_law_44 (by decide) (by decide) (by decide) (by decide) (by decide)
theorem eL_law_44_26 : WP (ML_law g) Q (44, [l0, l1, l2, l3, l4, l5, l6], .int 26 :: st, w, k, n) = WP (ML_law g) Q (1489, [l0, l1, l2, l3, l4, l5, l6], st, w, k, n) := tsw_e (off := 1445) rfl dL_law_44 (by decide) (by decide) (by decide) (by decide) (by decide)
theorem eL_law_44_27 : WP (ML_law g) Q (44, [l0, l1, l2, l3, l4, l5, l6], .int 27 :: st, w, k, n) = WP (ML_law g) Q (1517, [l0, l1, l2, l3, l4, l5, l6], st, w, k, n) := tsw_e (off := 1473) rfl dL_law_44 (by decide) (by decide) (by decide) (by decide) (by decide)
theorem eL_law_44_28 : WP (ML_law g) Q (44, [l0, l1, l2, l3, l4, l5, l6], .int 28 :: st, w, k, n) = WP (ML_law g) Q (1557, [l0, l1, l2, l3, l4, l5, l6], st, w, k, n) := tsw_e (off := 1513) rfl dL_law_44 (by decide) (by decide) (by decide) (by decide) (by decide)
theorem eL_law_44_29 : WP (ML_law g) Q (44, [l0, l1, l2, l3, l4, l5, l6], .int 29 :: st, w, k, n) = WP (ML_law g) Q (1597, [l0, l1, l2, l3, l4, l5, l6], st, w, k, n) := tsw_e (off := 1553) rfl dL_law_44 (by decide) (by decide) (by decide) (by decide) (by decide)
theorem eL_law_44_30 : WP (ML_law g) Q (44, [l0, l1, l2, l3, l4, l5, l6], .int 30 :: st, w, k, n) = WP (ML_law g) Q (1637, [l0, l1, l2, l3, l4, l5, l6], st, w, k, n) := tsw_e (off := 1593) rfl dL_law_44 (by decide) (by decide) (by decide) (by decide) (by decide)
theorem eL_law_44_31 : WP (ML_law g) Q (44, [l0, l1, l2, l3, l4, l5, l6], .int 31 :: st, w, k, n) = WP (ML_law g) Q (1705, [l0, l1, l2, l3, l4, l5, l6], st, w, k, n) := tsw_e (off := 1661) rfl dL_law_44 (by decide) (by decide) (by decide) (by decide) (by decide)
theorem eL_law_44_32 : WP (ML_law g) Q (44, [l0, l1, l2, l3, l4, l5, l6], .int 32 :: st, w, k, n) = WP (ML_law g) Q (1757, [l0, l1, l2, l3, l4, l5, l6], st, w, k, n) := tsw_e (off := 1713) rfl dL_law_44 (by decide) (by decide) (by decide) (by decide) (by decide)
theorem eL_law_44_33 : WP (ML_law g) Q (44, [l0, l1, l2, l3, l4, l5, l6], .int 33 :: st, w, k, n) = WP (ML_law g) Q (1797, [l0, l1, l2, l3, l4, l5, l6], st, w, k, n) := tsw_e (off := 1753) rfl dL_law_44 (by decide) (by decide) (by decide) (by decide) (by decide)
theorem eL_law_44_34 : WP (ML_law g) Q (44, [l0, l1, l2, l3, l4, l5, l6], .int 34 :: st, w, k, n) = WP (ML_law g) Q (1825, [l0, l1, l2, l3, l4, l5, l6], st, w, k, n) := tsw_e (off := 1781) rfl dL_law_44 (by decide) (by decide) (by decide) (by decide) (by decide)
theorem eL_law_44_35 : WP (ML_law g) Q (44, [l0, l1, l2, l3, l4, l5, l6], .int 35 :: st, w, k, n) = WP (ML_law g) Q (1865, [l0, l1, l2, l3, l4, l5, l6], st, w, k, n) := tsw_e (off := 1821) rfl dL_law_44 (by decide) (by decide) (by decide) (by decide) (by decide)
theorem eL_law_44_36 : WP (ML_law g) Q (44, [l0, l1, l2, l3, l4, l5, l6], .int 36 :: st, w, k, n) = WP (ML_law g) Q (1905, [l0, l1, l2, l3, l4, l5, l6], st, w, k, n) := tsw_e (off := 1861) rfl dL_law_44 (by decide) (by decide) (by decide) (by decide) (by decide)
theorem eL_law_44_37 : WP (ML_law g) Q (44, [l0, l1, l2, l3, l4, l5, l6], .int 37 :: st, w, k, n) = WP (ML_law g) Q (1933, [l0, l1, l2, l3, l4, l5, l6], st, w, k, n) := tsw_e (off := 1889) rfl dL_law_44 (by decide) (by decide) (by decide) (by decide) (by decide)
theorem eL_law_44_38 : WP (ML_law g) Q (44, [l0, l1, l2, l3, l4, l5, l6], .int 38 :: st, w, k, n) = WP (ML_law g) Q (1961, [l0, l1, l2, l3, l4, l5, l6], st, w, k, n) := tsw_e (off := 1917) rfl dL_law_44 (by decide) (by decide) (by decide) (by decide) (by decide)
theorem eL_law_44_39 : WP (ML_law g) Q (44, [l0, l1, l2, l3, l4, l5, l6], .int 39 :: st, w, k, n) = WP (ML_law g) Q (2017, [l0, l1, l2, l3, l4, l5, l6], st, w, k, n) := tsw_e (off := 1973) rfl dL_law_44 (by decide) (by decide) (by decide) (by decide) (by decide)
theorem eL_law_44_40 : WP (ML_law g) Q (44, [l0, l1, l2, l3, l4, l5, l6], .int 40 :: st, w, k, n) = WP (ML_law g) Q (2045, [l0, l1, l2, l3, l4, l5, l6], st, w, k, n) := tsw_e (off := 2001) rfl dL_law_44 (by decide) (by decide) (by decide) (by decide) (by decide)
theorem eL_law_44_41 : WP (ML_law g) Q (44, [l0, l1, l2, l3, l4, l5, l6], .int 41 :: st, w, k, n) = WP (ML_law g) Q (2073, [l0, l1, l2, l3, l4, l5, l6], st, w, k, n) := tsw_e (off := 2029) rfl dL_law_44 (by decide) (by decide) (by decide) (by decide) (by decide)
theorem eL_law_44_42 : WP (ML_law g) Q (44, [l0, l1, l2, l3, l4, l5, l6], .int 42 :: st, w, k, n) = WP (ML_law g) Q (2113, [l0, l1, l2, l3, l4, l5, l6], st, w, k, n) := tsw_e (off := 2069) rfl dL_law_44 (by decide) (by decide) (by decide) (by decide) (by decide)
theorem eL_law_44_43 : WP (ML_law g) Q (44, [l0, l1, l2, l3, l4, l5, l6], .int 43 :: st, w, k, n) = WP (ML_law g) Q (2126, [l0, l1, l2, l3, l4, l5, l6], st, w, k, n) := tsw_e (off := 2082) rfl dL_law_44 (by decide) (by decide) (by decide) (by decide) (by decide)
theorem eL_law_44_44 : WP (ML_law g) Q (44, [l0, l1, l2, l3, l4, l5, l6], .int 44 :: st, w, k, n) = WP (ML_law g) Q (2139, [l0, l1, l2, l3, l4, l5, l6], st, w, k, n) := tsw_e (off := 2095) rfl dL_law_44 (by decide) (by decide) (by decide) (by decide) (by decide)
theorem eL_law_44_45 : WP (ML_law g) Q (44, [l0, l1, l2, l3, l4, l5, l6], .int 45 :: st, w, k, n) = WP (ML_law g) Q (2179, [l0, l1, l2, l3, l4, l5, l6], st, w, k, n) := tsw_e (off := 2135) rfl dL_law_44 (by decide) (by decide) (by decide) (by decide) (by decide)
theorem eL_law_44_46 : WP (ML_law g) Q (44, [l0, l1, l2, l3, l4, l5, l6], .int 46 :: st, w, k, n) = WP (ML_law g) Q (2207, [l0, l1, l2, l3, l4, l5, l6], st, w, k, n) := tsw_e (off := 2163) rfl dL_law_44 (by decide) (by decide) (by decide) (by decide) (by decide)
theorem eL_law_44_47 : WP (ML_law g) Q (44, [l0, l1, l2, l3, l4, l5, l6], .int 47 :: st, w, k, n) = WP (ML_law g) Q (2220, [l0, l1, l2, l3, l4, l5, l6], st, w, k, n) := tsw_e (off := 2176) rfl dL_law_44 (by decide) (by decide) (by decide) (by decide) (by decide)
theorem eL_law_44_48 : WP (ML_law g) Q (44, [l0, l1, l2, l3, l4, l5, l6], .int 48 :: st, w, k, n) = WP (ML_law g) Q (2233, [l0, l1, l2, l3, l4, l5, l6], st, w, k, n) := tsw_e (off := 2189) rfl dL_law_44 (by decide) (by decide) (by decide) (by decide) (by decide)
theorem eL_law_44_d (h : a.toInt < 0 ∨ 48 < a.toInt) : WP (ML_law g) Q (44, [l0, l1, l2, l3, l4, l5, l6], .int a :: st, w, k, n) = WP (ML_law g) Q (2246, [l0, l1, l2, l3, l4, l5, l6], st, w, k, n) := tswd_e rfl dL_law_44 h (by decide)
theorem eL_law_256 : WP (ML_law g) Q (256, [l0, some (.ref p), l2, l3, l4, l5, l6], st, w, k, n) = WP (ML_law g) Q (257, [l0, some (.ref p), l2, l3, l4, l5, l6], .ref p :: st, w, k, n) := Eq.trans (WP_at (M := (ML_law g)) rfl dL_law_256 (Or.inr rfl)) rfl
theorem eL_law_256N : WP (ML_law g) Q (256, [l0, some .null, l2, l3, l4, l5, l6], st, w, k, n) = WP (ML_law g) Q (257, [l0, some .null, l2, l3, l4, l5, l6], .null :: st, w, k, n) := Eq.trans (WP_at (M := (ML_law g)) rfl dL_law_256 (Or.inr rfl)) rfl
theorem eL_law_257 : WP (ML_law g) Q (257, [some (.ref p), l1, l2, l3, l4, l5, l6], st, w, k, n) = WP (ML_law g) Q (258, [some (.ref p), l1, l2, l3, l4, l5, l6], .ref p :: st, w, k, n) := Eq.trans (WP_at (M := (ML_law g)) rfl dL_law_257 (Or.inr rfl)) rfl
theorem eL_law_257N : WP (ML_law g) Q (257, [some .null, l1, l2, l3, l4, l5, l6], st, w, k, n) = WP (ML_law g) Q (258, [some .null, l1, l2, l3, l4, l5, l6], .null :: st, w, k, n) := Eq.trans (WP_at (M := (ML_law g)) rfl dL_law_257 (Or.inr rfl)) rfl
theorem eL_law_258 : WP (ML_law g) Q (258, [l0, l1, l2, l3, some (.int a), l5, l6], st, w, k, n) = WP (ML_law g) Q (260, [l0, l1, l2, l3, some (.int a), l5, l6], .int a :: st, w, k, n) := Eq.trans (WP_at (M := (ML_law g)) rfl dL_law_258 (Or.inr rfl)) rfl
theorem eL_law_260 : WP (ML_law g) Q (260, [l0, l1, l2, l3, l4, l5, l6], st, w, k, n) = WP (ML_law g) Q (261, [l0, l1, l2, l3, l4, l5, l6], .int 1 :: st, w, k, n) := iconst_e rfl dL_law_260 (by decide)
theorem eL_law_261 : WP (ML_law g) Q (261, [l0, l1, l2, l3, l4, l5, l6], .int b :: .int a :: st, w, k, n) = WP (ML_law g) Q (262, [l0, l1, l2, l3, l4, l5, l6], .int (a + b) :: st, w, k, n) := Eq.trans (WP_at (M := (ML_law g)) rfl dL_law_261 (Or.inr rfl)) rfl
theorem eL_law_262 : WP (ML_law g) Q (262, [l0, l1, l2, l3, l4, l5, l6], .int a :: .ref p :: st, w, k, n) = gi (rd g w p) 1 fun N f => vp_in a N ∧ WP (ML_law g) Q (263, [l0, l1, l2, l3, l4, l5, l6], .int (f a.toNatClampNeg) :: st, w, k, n) := Eq.trans (WP_at (M := (ML_law g)) rfl dL_law_262 (Or.inr rfl)) rfl
theorem eL_law_263 : WP (ML_law g) Q (263, [some (.ref p), l1, l2, l3, l4, l5, l6], st, w, k, n) = WP (ML_law g) Q (264, [some (.ref p), l1, l2, l3, l4, l5, l6], .ref p :: st, w, k, n) := Eq.trans (WP_at (M := (ML_law g)) rfl dL_law_263 (Or.inr rfl)) rfl
theorem eL_law_263N : WP (ML_law g) Q (263, [some .null, l1, l2, l3, l4, l5, l6], st, w, k, n) = WP (ML_law g) Q (264, [some .null, l1, l2, l3, l4, l5, l6], .null :: st, w, k, n) := Eq.trans (WP_at (M := (ML_law g)) rfl dL_law_263 (Or.inr rfl)) rfl
theorem eL_law_264 : WP (ML_law g) Q (264, [l0, l1, l2, l3, some (.int a), l5, l6], st, w, k, n) = WP (ML_law g) Q (266, [l0, l1, l2, l3, some (.int a), l5, l6], .int a :: st, w, k, n) := Eq.trans (WP_at (M := (ML_law g)) rfl dL_law_264 (Or.inr rfl)) rfl
theorem eL_law_266 : WP (ML_law g) Q (266, [l0, l1, l2, l3, l4, l5, l6], st, w, k, n) = WP (ML_law g) Q (267, [l0, l1, l2, l3, l4, l5, l6], .int 2 :: st, w, k, n) := iconst_e rfl dL_law_266 (by decide)
theorem eL_law_267 : WP (ML_law g) Q (267, [l0, l1, l2, l3, l4, l5, l6], .int b :: .int a :: st, w, k, n) = WP (ML_law g) Q (268, [l0, l1, l2, l3, l4, l5, l6], .int (a + b) :: st, w, k, n) := Eq.trans (WP_at (M := (ML_law g)) rfl dL_law_267 (Or.inr rfl)) rfl
theorem eL_law_268 : WP (ML_law g) Q (268, [l0, l1, l2, l3, l4, l5, l6], .int a :: .ref p :: st, w, k, n) = gi (rd g w p) 1 fun N f => vp_in a N ∧ WP (ML_law g) Q (269, [l0, l1, l2, l3, l4, l5, l6], .int (f a.toNatClampNeg) :: st, w, k, n) := Eq.trans (WP_at (M := (ML_law g)) rfl dL_law_268 (Or.inr rfl)) rfl
theorem eL_law_269 : WP (ML_law g) Q (269, [some (.ref p), l1, l2, l3, l4, l5, l6], st, w, k, n) = WP (ML_law g) Q (270, [some (.ref p), l1, l2, l3, l4, l5, l6], .ref p :: st, w, k, n) := Eq.trans (WP_at (M := (ML_law g)) rfl dL_law_269 (Or.inr rfl)) rfl
theorem eL_law_269N : WP (ML_law g) Q (269, [some .null, l1, l2, l3, l4, l5, l6], st, w, k, n) = WP (ML_law g) Q (270, [some .null, l1, l2, l3, l4, l5, l6], .null :: st, w, k, n) := Eq.trans (WP_at (M := (ML_law g)) rfl dL_law_269 (Or.inr rfl)) rfl
theorem eL_law_270 : WP (ML_law g) Q (270, [l0, l1, l2, l3, some (.int a), l5, l6], st, w, k, n) = WP (ML_law g) Q (272, [l0, l1, l2, l3, some (.int a), l5, l6], .int a :: st, w, k, n) := Eq.trans (WP_at (M := (ML_law g)) rfl dL_law_270 (Or.inr rfl)) rfl
theorem eL_law_272 : WP (ML_law g) Q (272, [l0, l1, l2, l3, l4, l5, l6], st, w, k, n) = WP (ML_law g) Q (273, [l0, l1, l2, l3, l4, l5, l6], .int 3 :: st, w, k, n) := iconst_e rfl dL_law_272 (by decide)
theorem eL_law_273 : WP (ML_law g) Q (273, [l0, l1, l2, l3, l4, l5, l6], .int b :: .int a :: st, w, k, n) = WP (ML_law g) Q (274, [l0, l1, l2, l3, l4, l5, l6], .int (a + b) :: st, w, k, n) := Eq.trans (WP_at (M := (ML_law g)) rfl dL_law_273 (Or.inr rfl)) rfl
theorem eL_law_274 : WP (ML_law g) Q (274, [l0, l1, l2, l3, l4, l5, l6], .int a :: .ref p :: st, w, k, n) = gi (rd g w p) 1 fun N f => vp_in a N ∧ WP (ML_law g) Q (275, [l0, l1, l2, l3, l4, l5, l6], .int (f a.toNatClampNeg) :: st, w, k, n) := Eq.trans (WP_at (M := (ML_law g)) rfl dL_law_274 (Or.inr rfl)) rfl
theorem eL_law_275 : WP (ML_law g) Q (275, [l0, l1, l2, some (.ref p), l4, l5, l6], st, w, k, n) = WP (ML_law g) Q (276, [l0, l1, l2, some (.ref p), l4, l5, l6], .ref p :: st, w, k, n) := Eq.trans (WP_at (M := (ML_law g)) rfl dL_law_275 (Or.inr rfl)) rfl
theorem eL_law_275N : WP (ML_law g) Q (275, [l0, l1, l2, some .null, l4, l5, l6], st, w, k, n) = WP (ML_law g) Q (276, [l0, l1, l2, some .null, l4, l5, l6], .null :: st, w, k, n) := Eq.trans (WP_at (M := (ML_law g)) rfl dL_law_275 (Or.inr rfl)) rfl
theorem eL_law_276RR {z0 : Nat} {z1 : Int32} {z2 : Int32} {z3 : Int32} {z4 : Nat} : WP (ML_law g) Q (276, [l0, l1, l2, l3, l4, l5, l6], .ref z4 :: .int z3 :: .int z2 :: .int z1 :: .ref z0 :: st, w, k, n) = (wt st ≤ 8 ∧ k + 1 ≤ 58408 ∧ n + 6 ≤ 1451408 ∧ WP (ML_set g) (kx (fun v w' => WP (ML_law g) Q (279, [l0, l1, l2, l3, l4, l5, l6], v.toList ++ st, w', k + 1, n + 6)) (fun E w' => Q (.inr E) w')) (0, [some (.ref z0), some (.int z1), some (.int z2), some (.int z3), some (.ref z4), none], [], w, 0, 0)) := csS (M := (ML_law g)) (mc := (fun _ _ => 1)) (ms := (fun _ _ => 6)) (As := [.ref z0, .int z1, .int z2, .int z3, .ref z4]) (rest := st) (ML_set g) rfl rfl dL_law_276 (Nat.ne_of_beq_eq_false rfl) (by exact fun h => nomatch (show (none : Option Nat) = some 12 from h)) (by exact fun h => nomatch (show (none : Option Nat) = some 13 from h)) (by exact fun h => nomatch (show (none : Option Nat) = some 14 from h)) rfl rfl (by decide) (Nat.le_of_ble_eq_true rfl) (Nat.le_of_ble_eq_true rfl) rfl
theorem eL_law_276NR {z1 : Int32} {z2 : Int32} {z3 : Int32} {z4 : Nat} : WP (ML_law g) Q (276, [l0, l1, l2, l3, l4, l5, l6], .ref z4 :: .int z3 :: .int z2 :: .int z1 :: .null :: st, w, k, n) = (wt st ≤ 8 ∧ k + 1 ≤ 58408 ∧ n + 6 ≤ 1451408 ∧ WP (ML_set g) (kx (fun v w' => WP (ML_law g) Q (279, [l0, l1, l2, l3, l4, l5, l6], v.toList ++ st, w', k + 1, n + 6)) (fun E w' => Q (.inr E) w')) (0, [some .null, some (.int z1), some (.int z2), some (.int z3), some (.ref z4), none], [], w, 0, 0)) := csS (M := (ML_law g)) (mc := (fun _ _ => 1)) (ms := (fun _ _ => 6)) (As := [.null, .int z1, .int z2, .int z3, .ref z4]) (rest := st) (ML_set g) rfl rfl dL_law_276 (Nat.ne_of_beq_eq_false rfl) (by exact fun h => nomatch (show (none : Option Nat) = some 12 from h)) (by exact fun h => nomatch (show (none : Option Nat) = some 13 from h)) (by exact fun h => nomatch (show (none : Option Nat) = some 14 from h)) rfl rfl (by decide) (Nat.le_of_ble_eq_true rfl) (Nat.le_of_ble_eq_true rfl) rfl
theorem eL_law_276RN {z0 : Nat} {z1 : Int32} {z2 : Int32} {z3 : Int32} : WP (ML_law g) Q (276, [l0, l1, l2, l3, l4, l5, l6], .null :: .int z3 :: .int z2 :: .int z1 :: .ref z0 :: st, w, k, n) = (wt st ≤ 8 ∧ k + 1 ≤ 58408 ∧ n + 6 ≤ 1451408 ∧ WP (ML_set g) (kx (fun v w' => WP (ML_law g) Q (279, [l0, l1, l2, l3, l4, l5, l6], v.toList ++ st, w', k + 1, n + 6)) (fun E w' => Q (.inr E) w')) (0, [some (.ref z0), some (.int z1), some (.int z2), some (.int z3), some .null, none], [], w, 0, 0)) := csS (M := (ML_law g)) (mc := (fun _ _ => 1)) (ms := (fun _ _ => 6)) (As := [.ref z0, .int z1, .int z2, .int z3, .null]) (rest := st) (ML_set g) rfl rfl dL_law_276 (Nat.ne_of_beq_eq_false rfl) (by exact fun h => nomatch (show (none : Option Nat) = some 12 from h)) (by exact fun h => nomatch (show (none : Option Nat) = some 13 from h)) (by exact fun h => nomatch (show (none : Option Nat) = some 14 from h)) rfl rfl (by decide) (Nat.le_of_ble_eq_true rfl) (Nat.le_of_ble_eq_true rfl) rfl
theorem eL_law_276NN {z1 : Int32} {z2 : Int32} {z3 : Int32} : WP (ML_law g) Q (276, [l0, l1, l2, l3, l4, l5, l6], .null :: .int z3 :: .int z2 :: .int z1 :: .null :: st, w, k, n) = (wt st ≤ 8 ∧ k + 1 ≤ 58408 ∧ n + 6 ≤ 1451408 ∧ WP (ML_set g) (kx (fun v w' => WP (ML_law g) Q (279, [l0, l1, l2, l3, l4, l5, l6], v.toList ++ st, w', k + 1, n + 6)) (fun E w' => Q (.inr E) w')) (0, [some .null, some (.int z1), some (.int z2), some (.int z3), some .null, none], [], w, 0, 0)) := csS (M := (ML_law g)) (mc := (fun _ _ => 1)) (ms := (fun _ _ => 6)) (As := [.null, .int z1, .int z2, .int z3, .null]) (rest := st) (ML_set g) rfl rfl dL_law_276 (Nat.ne_of_beq_eq_false rfl) (by exact fun h => nomatch (show (none : Option Nat) = some 12 from h)) (by exact fun h => nomatch (show (none : Option Nat) = some 13 from h)) (by exact fun h => nomatch (show (none : Option Nat) = some 14 from h)) rfl rfl (by decide) (Nat.le_of_ble_eq_true rfl) (Nat.le_of_ble_eq_true rfl) rfl
theorem eL_law_279 : WP (ML_law g) Q (279, [l0, l1, l2, l3, l4, l5, l6], .int a :: st, w, k, n) = WP (ML_law g) Q (281, [l0, l1, l2, l3, nl l4, some (.int a), l6], st, w, k, n) := by rw [WP_at (M := (ML_law g)) rfl dL_law_279 (Or.inr rfl)]; exact and_t (Nat.le_of_ble_eq_true rfl)
theorem eL_law_281 : WP (ML_law g) Q (281, [l0, l1, some (.ref p), l3, l4, l5, l6], st, w, k, n) = WP (ML_law g) Q (282, [l0, l1, some (.ref p), l3, l4, l5, l6], .ref p :: st, w, k, n) := Eq.trans (WP_at (M := (ML_law g)) rfl dL_law_281 (Or.inr rfl)) rfl
theorem eL_law_281N : WP (ML_law g) Q (281, [l0, l1, some .null, l3, l4, l5, l6], st, w, k, n) = WP (ML_law g) Q (282, [l0, l1, some .null, l3, l4, l5, l6], .null :: st, w, k, n) := Eq.trans (WP_at (M := (ML_law g)) rfl dL_law_281 (Or.inr rfl)) rfl
theorem eL_law_282 : WP (ML_law g) Q (282, [some (.ref p), l1, l2, l3, l4, l5, l6], st, w, k, n) = WP (ML_law g) Q (283, [some (.ref p), l1, l2, l3, l4, l5, l6], .ref p :: st, w, k, n) := Eq.trans (WP_at (M := (ML_law g)) rfl dL_law_282 (Or.inr rfl)) rfl
theorem eL_law_282N : WP (ML_law g) Q (282, [some .null, l1, l2, l3, l4, l5, l6], st, w, k, n) = WP (ML_law g) Q (283, [some .null, l1, l2, l3, l4, l5, l6], .null :: st, w, k, n) := Eq.trans (WP_at (M := (ML_law g)) rfl dL_law_282 (Or.inr rfl)) rfl
theorem eL_law_283 : WP (ML_law g) Q (283, [l0, l1, l2, l3, some (.int a), l5, l6], st, w, k, n) = WP (ML_law g) Q (285, [l0, l1, l2, l3, some (.int a), l5, l6], .int a :: st, w, k, n) := Eq.trans (WP_at (M := (ML_law g)) rfl dL_law_283 (Or.inr rfl)) rfl
theorem eL_law_285 : WP (ML_law g) Q (285, [l0, l1, l2, l3, l4, l5, l6], st, w, k, n) = WP (ML_law g) Q (286, [l0, l1, l2, l3, l4, l5, l6], .int 1 :: st, w, k, n) := iconst_e rfl dL_law_285 (by decide)
theorem eL_law_286 : WP (ML_law g) Q (286, [l0, l1, l2, l3, l4, l5, l6], .int b :: .int a :: st, w, k, n) = WP (ML_law g) Q (287, [l0, l1, l2, l3, l4, l5, l6], .int (a + b) :: st, w, k, n) := Eq.trans (WP_at (M := (ML_law g)) rfl dL_law_286 (Or.inr rfl)) rfl
theorem eL_law_287 : WP (ML_law g) Q (287, [l0, l1, l2, l3, l4, l5, l6], .int a :: .ref p :: st, w, k, n) = gi (rd g w p) 1 fun N f => vp_in a N ∧ WP (ML_law g) Q (288, [l0, l1, l2, l3, l4, l5, l6], .int (f a.toNatClampNeg) :: st, w, k, n) := Eq.trans (WP_at (M := (ML_law g)) rfl dL_law_287 (Or.inr rfl)) rfl
theorem eL_law_288 : WP (ML_law g) Q (288, [some (.ref p), l1, l2, l3, l4, l5, l6], st, w, k, n) = WP (ML_law g) Q (289, [some (.ref p), l1, l2, l3, l4, l5, l6], .ref p :: st, w, k, n) := Eq.trans (WP_at (M := (ML_law g)) rfl dL_law_288 (Or.inr rfl)) rfl
theorem eL_law_288N : WP (ML_law g) Q (288, [some .null, l1, l2, l3, l4, l5, l6], st, w, k, n) = WP (ML_law g) Q (289, [some .null, l1, l2, l3, l4, l5, l6], .null :: st, w, k, n) := Eq.trans (WP_at (M := (ML_law g)) rfl dL_law_288 (Or.inr rfl)) rfl
theorem eL_law_289 : WP (ML_law g) Q (289, [l0, l1, l2, l3, some (.int a), l5, l6], st, w, k, n) = WP (ML_law g) Q (291, [l0, l1, l2, l3, some (.int a), l5, l6], .int a :: st, w, k, n) := Eq.trans (WP_at (M := (ML_law g)) rfl dL_law_289 (Or.inr rfl)) rfl
theorem eL_law_291 : WP (ML_law g) Q (291, [l0, l1, l2, l3, l4, l5, l6], st, w, k, n) = WP (ML_law g) Q (292, [l0, l1, l2, l3, l4, l5, l6], .int 2 :: st, w, k, n) := iconst_e rfl dL_law_291 (by decide)
theorem eL_law_292 : WP (ML_law g) Q (292, [l0, l1, l2, l3, l4, l5, l6], .int b :: .int a :: st, w, k, n) = WP (ML_law g) Q (293, [l0, l1, l2, l3, l4, l5, l6], .int (a + b) :: st, w, k, n) := Eq.trans (WP_at (M := (ML_law g)) rfl dL_law_292 (Or.inr rfl)) rfl
theorem eL_law_293 : WP (ML_law g) Q (293, [l0, l1, l2, l3, l4, l5, l6], .int a :: .ref p :: st, w, k, n) = gi (rd g w p) 1 fun N f => vp_in a N ∧ WP (ML_law g) Q (294, [l0, l1, l2, l3, l4, l5, l6], .int (f a.toNatClampNeg) :: st, w, k, n) := Eq.trans (WP_at (M := (ML_law g)) rfl dL_law_293 (Or.inr rfl)) rfl
theorem eL_law_294 : WP (ML_law g) Q (294, [some (.ref p), l1, l2, l3, l4, l5, l6], st, w, k, n) = WP (ML_law g) Q (295, [some (.ref p), l1, l2, l3, l4, l5, l6], .ref p :: st, w, k, n) := Eq.trans (WP_at (M := (ML_law g)) rfl dL_law_294 (Or.inr rfl)) rfl
theorem eL_law_294N : WP (ML_law g) Q (294, [some .null, l1, l2, l3, l4, l5, l6], st, w, k, n) = WP (ML_law g) Q (295, [some .null, l1, l2, l3, l4, l5, l6], .null :: st, w, k, n) := Eq.trans (WP_at (M := (ML_law g)) rfl dL_law_294 (Or.inr rfl)) rfl
theorem eL_law_295 : WP (ML_law g) Q (295, [l0, l1, l2, l3, some (.int a), l5, l6], st, w, k, n) = WP (ML_law g) Q (297, [l0, l1, l2, l3, some (.int a), l5, l6], .int a :: st, w, k, n) := Eq.trans (WP_at (M := (ML_law g)) rfl dL_law_295 (Or.inr rfl)) rfl
theorem eL_law_297 : WP (ML_law g) Q (297, [l0, l1, l2, l3, l4, l5, l6], st, w, k, n) = WP (ML_law g) Q (298, [l0, l1, l2, l3, l4, l5, l6], .int 3 :: st, w, k, n) := iconst_e rfl dL_law_297 (by decide)
theorem eL_law_298 : WP (ML_law g) Q (298, [l0, l1, l2, l3, l4, l5, l6], .int b :: .int a :: st, w, k, n) = WP (ML_law g) Q (299, [l0, l1, l2, l3, l4, l5, l6], .int (a + b) :: st, w, k, n) := Eq.trans (WP_at (M := (ML_law g)) rfl dL_law_298 (Or.inr rfl)) rfl
theorem eL_law_299 : WP (ML_law g) Q (299, [l0, l1, l2, l3, l4, l5, l6], .int a :: .ref p :: st, w, k, n) = gi (rd g w p) 1 fun N f => vp_in a N ∧ WP (ML_law g) Q (300, [l0, l1, l2, l3, l4, l5, l6], .int (f a.toNatClampNeg) :: st, w, k, n) := Eq.trans (WP_at (M := (ML_law g)) rfl dL_law_299 (Or.inr rfl)) rfl
theorem eL_law_300 {z0 : Int32} {z1 : Int32} {z2 : Int32} : WP (ML_law g) Q (300, [l0, l1, l2, l3, l4, l5, l6], .int z2 :: .int z1 :: .int z0 :: .ref p :: st, w, k, n) = (go (rd g w p) 7 (fun _ => True) ∧ wt st ≤ 8 ∧ k + 0 ≤ 58408 ∧ n + 0 ≤ 1451408 ∧ WP (MX3_set g) (kx (fun v w' => WP (ML_law g) Q (303, [l0, l1, l2, l3, l4, l5, l6], v.toList ++ st, w', k + 0, n + 0)) (fun E w' => Q (.inr E) w')) (0, [some (.ref p), some (.int z0), some (.int z1), some (.int z2), none], [], w, 0, 0)) := csV (M := (ML_law g)) (mc := (fun _ _ => 0)) (ms := (fun _ _ => 0)) (As := [.int z0, .int z1, .int z2]) (rest := st) (MX3_set g) rfl rfl dL_law_300 (by exact fun h => nomatch (show (none : Option Nat) = some 11 from h)) (by exact fun h => nomatch (show (none : Option Nat) = some 15 from h)) rfl rfl (by decide) (Nat.le_of_ble_eq_true rfl) (Nat.le_of_ble_eq_true rfl) rfl
theorem eL_law_303 : WP (ML_law g) Q (303, [l0, l1, l2, l3, l4, l5, l6], .int a :: st, w, k, n) = WP (ML_law g) Q (305, [l0, l1, l2, l3, l4, nl l5, some (.int a)], st, w, k, n) := by rw [WP_at (M := (ML_law g)) rfl dL_law_303 (Or.inr rfl)]; exact and_t (Nat.le_of_ble_eq_true rfl)
theorem eL_law_305 : WP (ML_law g) Q (305, [l0, l1, l2, l3, l4, l5, l6], st, w, k, n) = WP (ML_law g) Q (2246, [l0, l1, l2, l3, l4, l5, l6], st, w, k, n) := goto_e rfl dL_law_305 (by decide)
theorem eL_law_308 : WP (ML_law g) Q (308, [l0, some (.ref p), l2, l3, l4, l5, l6], st, w, k, n) = WP (ML_law g) Q (309, [l0, some (.ref p), l2, l3, l4, l5, l6], .ref p :: st, w, k, n) := Eq.trans (WP_at (M := (ML_law g)) rfl dL_law_308 (Or.inr rfl)) rfl
theorem eL_law_308N : WP (ML_law g) Q (308, [l0, some .null, l2, l3, l4, l5, l6], st, w, k, n) = WP (ML_law g) Q (309, [l0, some .null, l2, l3, l4, l5, l6], .null :: st, w, k, n) := Eq.trans (WP_at (M := (ML_law g)) rfl dL_law_308 (Or.inr rfl)) rfl
theorem eL_law_309 : WP (ML_law g) Q (309, [some (.ref p), l1, l2, l3, l4, l5, l6], st, w, k, n) = WP (ML_law g) Q (310, [some (.ref p), l1, l2, l3, l4, l5, l6], .ref p :: st, w, k, n) := Eq.trans (WP_at (M := (ML_law g)) rfl dL_law_309 (Or.inr rfl)) rfl
theorem eL_law_309N : WP (ML_law g) Q (309, [some .null, l1, l2, l3, l4, l5, l6], st, w, k, n) = WP (ML_law g) Q (310, [some .null, l1, l2, l3, l4, l5, l6], .null :: st, w, k, n) := Eq.trans (WP_at (M := (ML_law g)) rfl dL_law_309 (Or.inr rfl)) rfl
theorem eL_law_310 : WP (ML_law g) Q (310, [l0, l1, l2, l3, some (.int a), l5, l6], st, w, k, n) = WP (ML_law g) Q (312, [l0, l1, l2, l3, some (.int a), l5, l6], .int a :: st, w, k, n) := Eq.trans (WP_at (M := (ML_law g)) rfl dL_law_310 (Or.inr rfl)) rfl
theorem eL_law_312 : WP (ML_law g) Q (312, [l0, l1, l2, l3, l4, l5, l6], st, w, k, n) = WP (ML_law g) Q (313, [l0, l1, l2, l3, l4, l5, l6], .int 1 :: st, w, k, n) := iconst_e rfl dL_law_312 (by decide)
theorem eL_law_313 : WP (ML_law g) Q (313, [l0, l1, l2, l3, l4, l5, l6], .int b :: .int a :: st, w, k, n) = WP (ML_law g) Q (314, [l0, l1, l2, l3, l4, l5, l6], .int (a + b) :: st, w, k, n) := Eq.trans (WP_at (M := (ML_law g)) rfl dL_law_313 (Or.inr rfl)) rfl
theorem eL_law_314 : WP (ML_law g) Q (314, [l0, l1, l2, l3, l4, l5, l6], .int a :: .ref p :: st, w, k, n) = gi (rd g w p) 1 fun N f => vp_in a N ∧ WP (ML_law g) Q (315, [l0, l1, l2, l3, l4, l5, l6], .int (f a.toNatClampNeg) :: st, w, k, n) := Eq.trans (WP_at (M := (ML_law g)) rfl dL_law_314 (Or.inr rfl)) rfl
theorem eL_law_315 : WP (ML_law g) Q (315, [some (.ref p), l1, l2, l3, l4, l5, l6], st, w, k, n) = WP (ML_law g) Q (316, [some (.ref p), l1, l2, l3, l4, l5, l6], .ref p :: st, w, k, n) := Eq.trans (WP_at (M := (ML_law g)) rfl dL_law_315 (Or.inr rfl)) rfl
theorem eL_law_315N : WP (ML_law g) Q (315, [some .null, l1, l2, l3, l4, l5, l6], st, w, k, n) = WP (ML_law g) Q (316, [some .null, l1, l2, l3, l4, l5, l6], .null :: st, w, k, n) := Eq.trans (WP_at (M := (ML_law g)) rfl dL_law_315 (Or.inr rfl)) rfl
theorem eL_law_316 : WP (ML_law g) Q (316, [l0, l1, l2, l3, some (.int a), l5, l6], st, w, k, n) = WP (ML_law g) Q (318, [l0, l1, l2, l3, some (.int a), l5, l6], .int a :: st, w, k, n) := Eq.trans (WP_at (M := (ML_law g)) rfl dL_law_316 (Or.inr rfl)) rfl
theorem eL_law_318 : WP (ML_law g) Q (318, [l0, l1, l2, l3, l4, l5, l6], st, w, k, n) = WP (ML_law g) Q (319, [l0, l1, l2, l3, l4, l5, l6], .int 2 :: st, w, k, n) := iconst_e rfl dL_law_318 (by decide)
theorem eL_law_319 : WP (ML_law g) Q (319, [l0, l1, l2, l3, l4, l5, l6], .int b :: .int a :: st, w, k, n) = WP (ML_law g) Q (320, [l0, l1, l2, l3, l4, l5, l6], .int (a + b) :: st, w, k, n) := Eq.trans (WP_at (M := (ML_law g)) rfl dL_law_319 (Or.inr rfl)) rfl
theorem eL_law_320 : WP (ML_law g) Q (320, [l0, l1, l2, l3, l4, l5, l6], .int a :: .ref p :: st, w, k, n) = gi (rd g w p) 1 fun N f => vp_in a N ∧ WP (ML_law g) Q (321, [l0, l1, l2, l3, l4, l5, l6], .int (f a.toNatClampNeg) :: st, w, k, n) := Eq.trans (WP_at (M := (ML_law g)) rfl dL_law_320 (Or.inr rfl)) rfl
theorem eL_law_321 : WP (ML_law g) Q (321, [l0, l1, l2, some (.ref p), l4, l5, l6], st, w, k, n) = WP (ML_law g) Q (322, [l0, l1, l2, some (.ref p), l4, l5, l6], .ref p :: st, w, k, n) := Eq.trans (WP_at (M := (ML_law g)) rfl dL_law_321 (Or.inr rfl)) rfl
theorem eL_law_321N : WP (ML_law g) Q (321, [l0, l1, l2, some .null, l4, l5, l6], st, w, k, n) = WP (ML_law g) Q (322, [l0, l1, l2, some .null, l4, l5, l6], .null :: st, w, k, n) := Eq.trans (WP_at (M := (ML_law g)) rfl dL_law_321 (Or.inr rfl)) rfl
theorem eL_law_322RR {z0 : Nat} {z1 : Int32} {z2 : Int32} {z3 : Nat} : WP (ML_law g) Q (322, [l0, l1, l2, l3, l4, l5, l6], .ref z3 :: .int z2 :: .int z1 :: .ref z0 :: st, w, k, n) = (wt st ≤ 8 ∧ k + 1 ≤ 58408 ∧ n + 6 ≤ 1451408 ∧ WP (ML_setSmall g) (kx (fun v w' => WP (ML_law g) Q (325, [l0, l1, l2, l3, l4, l5, l6], v.toList ++ st, w', k + 1, n + 6)) (fun E w' => Q (.inr E) w')) (0, [some (.ref z0), some (.int z1), some (.int z2), some (.ref z3), none], [], w, 0, 0)) := csS (M := (ML_law g)) (mc := (fun _ _ => 1)) (ms := (fun _ _ => 6)) (As := [.ref z0, .int z1, .int z2, .ref z3]) (rest := st) (ML_setSmall g) rfl rfl dL_law_322 (Nat.ne_of_beq_eq_false rfl) (by exact fun h => nomatch (show (none : Option Nat) = some 12 from h)) (by exact fun h => nomatch (show (none : Option Nat) = some 13 from h)) (by exact fun h => nomatch (show (none : Option Nat) = some 14 from h)) rfl rfl (by decide) (Nat.le_of_ble_eq_true rfl) (Nat.le_of_ble_eq_true rfl) rfl
theorem eL_law_322NR {z1 : Int32} {z2 : Int32} {z3 : Nat} : WP (ML_law g) Q (322, [l0, l1, l2, l3, l4, l5, l6], .ref z3 :: .int z2 :: .int z1 :: .null :: st, w, k, n) = (wt st ≤ 8 ∧ k + 1 ≤ 58408 ∧ n + 6 ≤ 1451408 ∧ WP (ML_setSmall g) (kx (fun v w' => WP (ML_law g) Q (325, [l0, l1, l2, l3, l4, l5, l6], v.toList ++ st, w', k + 1, n + 6)) (fun E w' => Q (.inr E) w')) (0, [some .null, some (.int z1), some (.int z2), some (.ref z3), none], [], w, 0, 0)) := csS (M := (ML_law g)) (mc := (fun _ _ => 1)) (ms := (fun _ _ => 6)) (As := [.null, .int z1, .int z2, .ref z3]) (rest := st) (ML_setSmall g) rfl rfl dL_law_322 (Nat.ne_of_beq_eq_false rfl) (by exact fun h => nomatch (show (none : Option Nat) = some 12 from h)) (by exact fun h => nomatch (show (none : Option Nat) = some 13 from h)) (by exact fun h => nomatch (show (none : Option Nat) = some 14 from h)) rfl rfl (by decide) (Nat.le_of_ble_eq_true rfl) (Nat.le_of_ble_eq_true rfl) rfl
theorem eL_law_322RN {z0 : Nat} {z1 : Int32} {z2 : Int32} : WP (ML_law g) Q (322, [l0, l1, l2, l3, l4, l5, l6], .null :: .int z2 :: .int z1 :: .ref z0 :: st, w, k, n) = (wt st ≤ 8 ∧ k + 1 ≤ 58408 ∧ n + 6 ≤ 1451408 ∧ WP (ML_setSmall g) (kx (fun v w' => WP (ML_law g) Q (325, [l0, l1, l2, l3, l4, l5, l6], v.toList ++ st, w', k + 1, n + 6)) (fun E w' => Q (.inr E) w')) (0, [some (.ref z0), some (.int z1), some (.int z2), some .null, none], [], w, 0, 0)) := csS (M := (ML_law g)) (mc := (fun _ _ => 1)) (ms := (fun _ _ => 6)) (As := [.ref z0, .int z1, .int z2, .null]) (rest := st) (ML_setSmall g) rfl rfl dL_law_322 (Nat.ne_of_beq_eq_false rfl) (by exact fun h => nomatch (show (none : Option Nat) = some 12 from h)) (by exact fun h => nomatch (show (none : Option Nat) = some 13 from h)) (by exact fun h => nomatch (show (none : Option Nat) = some 14 from h)) rfl rfl (by decide) (Nat.le_of_ble_eq_true rfl) (Nat.le_of_ble_eq_true rfl) rfl
theorem eL_law_322NN {z1 : Int32} {z2 : Int32} : WP (ML_law g) Q (322, [l0, l1, l2, l3, l4, l5, l6], .null :: .int z2 :: .int z1 :: .null :: st, w, k, n) = (wt st ≤ 8 ∧ k + 1 ≤ 58408 ∧ n + 6 ≤ 1451408 ∧ WP (ML_setSmall g) (kx (fun v w' => WP (ML_law g) Q (325, [l0, l1, l2, l3, l4, l5, l6], v.toList ++ st, w', k + 1, n + 6)) (fun E w' => Q (.inr E) w')) (0, [some .null, some (.int z1), some (.int z2), some .null, none], [], w, 0, 0)) := csS (M := (ML_law g)) (mc := (fun _ _ => 1)) (ms := (fun _ _ => 6)) (As := [.null, .int z1, .int z2, .null]) (rest := st) (ML_setSmall g) rfl rfl dL_law_322 (Nat.ne_of_beq_eq_false rfl) (by exact fun h => nomatch (show (none : Option Nat) = some 12 from h)) (by exact fun h => nomatch (show (none : Option Nat) = some 13 from h)) (by exact fun h => nomatch (show (none : Option Nat) = some 14 from h)) rfl rfl (by decide) (Nat.le_of_ble_eq_true rfl) (Nat.le_of_ble_eq_true rfl) rfl
theorem eL_law_325 : WP (ML_law g) Q (325, [l0, l1, l2, l3, l4, l5, l6], .int a :: st, w, k, n) = WP (ML_law g) Q (327, [l0, l1, l2, l3, nl l4, some (.int a), l6], st, w, k, n) := by rw [WP_at (M := (ML_law g)) rfl dL_law_325 (Or.inr rfl)]; exact and_t (Nat.le_of_ble_eq_true rfl)
theorem eL_law_327 : WP (ML_law g) Q (327, [l0, l1, some (.ref p), l3, l4, l5, l6], st, w, k, n) = WP (ML_law g) Q (328, [l0, l1, some (.ref p), l3, l4, l5, l6], .ref p :: st, w, k, n) := Eq.trans (WP_at (M := (ML_law g)) rfl dL_law_327 (Or.inr rfl)) rfl
theorem eL_law_327N : WP (ML_law g) Q (327, [l0, l1, some .null, l3, l4, l5, l6], st, w, k, n) = WP (ML_law g) Q (328, [l0, l1, some .null, l3, l4, l5, l6], .null :: st, w, k, n) := Eq.trans (WP_at (M := (ML_law g)) rfl dL_law_327 (Or.inr rfl)) rfl
theorem eL_law_328 : WP (ML_law g) Q (328, [some (.ref p), l1, l2, l3, l4, l5, l6], st, w, k, n) = WP (ML_law g) Q (329, [some (.ref p), l1, l2, l3, l4, l5, l6], .ref p :: st, w, k, n) := Eq.trans (WP_at (M := (ML_law g)) rfl dL_law_328 (Or.inr rfl)) rfl
theorem eL_law_328N : WP (ML_law g) Q (328, [some .null, l1, l2, l3, l4, l5, l6], st, w, k, n) = WP (ML_law g) Q (329, [some .null, l1, l2, l3, l4, l5, l6], .null :: st, w, k, n) := Eq.trans (WP_at (M := (ML_law g)) rfl dL_law_328 (Or.inr rfl)) rfl
theorem eL_law_329 : WP (ML_law g) Q (329, [l0, l1, l2, l3, some (.int a), l5, l6], st, w, k, n) = WP (ML_law g) Q (331, [l0, l1, l2, l3, some (.int a), l5, l6], .int a :: st, w, k, n) := Eq.trans (WP_at (M := (ML_law g)) rfl dL_law_329 (Or.inr rfl)) rfl
theorem eL_law_331 : WP (ML_law g) Q (331, [l0, l1, l2, l3, l4, l5, l6], st, w, k, n) = WP (ML_law g) Q (332, [l0, l1, l2, l3, l4, l5, l6], .int 1 :: st, w, k, n) := iconst_e rfl dL_law_331 (by decide)
theorem eL_law_332 : WP (ML_law g) Q (332, [l0, l1, l2, l3, l4, l5, l6], .int b :: .int a :: st, w, k, n) = WP (ML_law g) Q (333, [l0, l1, l2, l3, l4, l5, l6], .int (a + b) :: st, w, k, n) := Eq.trans (WP_at (M := (ML_law g)) rfl dL_law_332 (Or.inr rfl)) rfl
theorem eL_law_333 : WP (ML_law g) Q (333, [l0, l1, l2, l3, l4, l5, l6], .int a :: .ref p :: st, w, k, n) = gi (rd g w p) 1 fun N f => vp_in a N ∧ WP (ML_law g) Q (334, [l0, l1, l2, l3, l4, l5, l6], .int (f a.toNatClampNeg) :: st, w, k, n) := Eq.trans (WP_at (M := (ML_law g)) rfl dL_law_333 (Or.inr rfl)) rfl
theorem eL_law_334 : WP (ML_law g) Q (334, [some (.ref p), l1, l2, l3, l4, l5, l6], st, w, k, n) = WP (ML_law g) Q (335, [some (.ref p), l1, l2, l3, l4, l5, l6], .ref p :: st, w, k, n) := Eq.trans (WP_at (M := (ML_law g)) rfl dL_law_334 (Or.inr rfl)) rfl
theorem eL_law_334N : WP (ML_law g) Q (334, [some .null, l1, l2, l3, l4, l5, l6], st, w, k, n) = WP (ML_law g) Q (335, [some .null, l1, l2, l3, l4, l5, l6], .null :: st, w, k, n) := Eq.trans (WP_at (M := (ML_law g)) rfl dL_law_334 (Or.inr rfl)) rfl
theorem eL_law_335 : WP (ML_law g) Q (335, [l0, l1, l2, l3, some (.int a), l5, l6], st, w, k, n) = WP (ML_law g) Q (337, [l0, l1, l2, l3, some (.int a), l5, l6], .int a :: st, w, k, n) := Eq.trans (WP_at (M := (ML_law g)) rfl dL_law_335 (Or.inr rfl)) rfl
theorem eL_law_337 : WP (ML_law g) Q (337, [l0, l1, l2, l3, l4, l5, l6], st, w, k, n) = WP (ML_law g) Q (338, [l0, l1, l2, l3, l4, l5, l6], .int 2 :: st, w, k, n) := iconst_e rfl dL_law_337 (by decide)
theorem eL_law_338 : WP (ML_law g) Q (338, [l0, l1, l2, l3, l4, l5, l6], .int b :: .int a :: st, w, k, n) = WP (ML_law g) Q (339, [l0, l1, l2, l3, l4, l5, l6], .int (a + b) :: st, w, k, n) := Eq.trans (WP_at (M := (ML_law g)) rfl dL_law_338 (Or.inr rfl)) rfl
theorem eL_law_339 : WP (ML_law g) Q (339, [l0, l1, l2, l3, l4, l5, l6], .int a :: .ref p :: st, w, k, n) = gi (rd g w p) 1 fun N f => vp_in a N ∧ WP (ML_law g) Q (340, [l0, l1, l2, l3, l4, l5, l6], .int (f a.toNatClampNeg) :: st, w, k, n) := Eq.trans (WP_at (M := (ML_law g)) rfl dL_law_339 (Or.inr rfl)) rfl
theorem eL_law_340 {z0 : Int32} {z1 : Int32} : WP (ML_law g) Q (340, [l0, l1, l2, l3, l4, l5, l6], .int z1 :: .int z0 :: .ref p :: st, w, k, n) = (go (rd g w p) 7 (fun _ => True) ∧ wt st ≤ 8 ∧ k + 0 ≤ 58408 ∧ n + 0 ≤ 1451408 ∧ WP (MX3_setSmall g) (kx (fun v w' => WP (ML_law g) Q (343, [l0, l1, l2, l3, l4, l5, l6], v.toList ++ st, w', k + 0, n + 0)) (fun E w' => Q (.inr E) w')) (0, [some (.ref p), some (.int z0), some (.int z1), none], [], w, 0, 0)) := csV (M := (ML_law g)) (mc := (fun _ _ => 0)) (ms := (fun _ _ => 0)) (As := [.int z0, .int z1]) (rest := st) (MX3_setSmall g) rfl rfl dL_law_340 (by exact fun h => nomatch (show (none : Option Nat) = some 11 from h)) (by exact fun h => nomatch (show (none : Option Nat) = some 15 from h)) rfl rfl (by decide) (Nat.le_of_ble_eq_true rfl) (Nat.le_of_ble_eq_true rfl) rfl
theorem eL_law_343 : WP (ML_law g) Q (343, [l0, l1, l2, l3, l4, l5, l6], .int a :: st, w, k, n) = WP (ML_law g) Q (345, [l0, l1, l2, l3, l4, nl l5, some (.int a)], st, w, k, n) := by rw [WP_at (M := (ML_law g)) rfl dL_law_343 (Or.inr rfl)]; exact and_t (Nat.le_of_ble_eq_true rfl)
theorem eL_law_345 : WP (ML_law g) Q (345, [l0, l1, l2, l3, l4, l5, l6], st, w, k, n) = WP (ML_law g) Q (2246, [l0, l1, l2, l3, l4, l5, l6], st, w, k, n) := goto_e rfl dL_law_345 (by decide)
theorem eL_law_348 : WP (ML_law g) Q (348, [l0, some (.ref p), l2, l3, l4, l5, l6], st, w, k, n) = WP (ML_law g) Q (349, [l0, some (.ref p), l2, l3, l4, l5, l6], .ref p :: st, w, k, n) := Eq.trans (WP_at (M := (ML_law g)) rfl dL_law_348 (Or.inr rfl)) rfl
theorem eL_law_348N : WP (ML_law g) Q (348, [l0, some .null, l2, l3, l4, l5, l6], st, w, k, n) = WP (ML_law g) Q (349, [l0, some .null, l2, l3, l4, l5, l6], .null :: st, w, k, n) := Eq.trans (WP_at (M := (ML_law g)) rfl dL_law_348 (Or.inr rfl)) rfl
theorem eL_law_349 : WP (ML_law g) Q (349, [some (.ref p), l1, l2, l3, l4, l5, l6], st, w, k, n) = WP (ML_law g) Q (350, [some (.ref p), l1, l2, l3, l4, l5, l6], .ref p :: st, w, k, n) := Eq.trans (WP_at (M := (ML_law g)) rfl dL_law_349 (Or.inr rfl)) rfl
theorem eL_law_349N : WP (ML_law g) Q (349, [some .null, l1, l2, l3, l4, l5, l6], st, w, k, n) = WP (ML_law g) Q (350, [some .null, l1, l2, l3, l4, l5, l6], .null :: st, w, k, n) := Eq.trans (WP_at (M := (ML_law g)) rfl dL_law_349 (Or.inr rfl)) rfl
theorem eL_law_350 : WP (ML_law g) Q (350, [l0, l1, l2, l3, some (.int a), l5, l6], st, w, k, n) = WP (ML_law g) Q (352, [l0, l1, l2, l3, some (.int a), l5, l6], .int a :: st, w, k, n) := Eq.trans (WP_at (M := (ML_law g)) rfl dL_law_350 (Or.inr rfl)) rfl
theorem eL_law_352 : WP (ML_law g) Q (352, [l0, l1, l2, l3, l4, l5, l6], st, w, k, n) = WP (ML_law g) Q (353, [l0, l1, l2, l3, l4, l5, l6], .int 1 :: st, w, k, n) := iconst_e rfl dL_law_352 (by decide)
theorem eL_law_353 : WP (ML_law g) Q (353, [l0, l1, l2, l3, l4, l5, l6], .int b :: .int a :: st, w, k, n) = WP (ML_law g) Q (354, [l0, l1, l2, l3, l4, l5, l6], .int (a + b) :: st, w, k, n) := Eq.trans (WP_at (M := (ML_law g)) rfl dL_law_353 (Or.inr rfl)) rfl
theorem eL_law_354 : WP (ML_law g) Q (354, [l0, l1, l2, l3, l4, l5, l6], .int a :: .ref p :: st, w, k, n) = gi (rd g w p) 1 fun N f => vp_in a N ∧ WP (ML_law g) Q (355, [l0, l1, l2, l3, l4, l5, l6], .int (f a.toNatClampNeg) :: st, w, k, n) := Eq.trans (WP_at (M := (ML_law g)) rfl dL_law_354 (Or.inr rfl)) rfl
theorem eL_law_355 : WP (ML_law g) Q (355, [some (.ref p), l1, l2, l3, l4, l5, l6], st, w, k, n) = WP (ML_law g) Q (356, [some (.ref p), l1, l2, l3, l4, l5, l6], .ref p :: st, w, k, n) := Eq.trans (WP_at (M := (ML_law g)) rfl dL_law_355 (Or.inr rfl)) rfl
theorem eL_law_355N : WP (ML_law g) Q (355, [some .null, l1, l2, l3, l4, l5, l6], st, w, k, n) = WP (ML_law g) Q (356, [some .null, l1, l2, l3, l4, l5, l6], .null :: st, w, k, n) := Eq.trans (WP_at (M := (ML_law g)) rfl dL_law_355 (Or.inr rfl)) rfl
theorem eL_law_356 : WP (ML_law g) Q (356, [l0, l1, l2, l3, some (.int a), l5, l6], st, w, k, n) = WP (ML_law g) Q (358, [l0, l1, l2, l3, some (.int a), l5, l6], .int a :: st, w, k, n) := Eq.trans (WP_at (M := (ML_law g)) rfl dL_law_356 (Or.inr rfl)) rfl
theorem eL_law_358 : WP (ML_law g) Q (358, [l0, l1, l2, l3, l4, l5, l6], st, w, k, n) = WP (ML_law g) Q (359, [l0, l1, l2, l3, l4, l5, l6], .int 2 :: st, w, k, n) := iconst_e rfl dL_law_358 (by decide)
theorem eL_law_359 : WP (ML_law g) Q (359, [l0, l1, l2, l3, l4, l5, l6], .int b :: .int a :: st, w, k, n) = WP (ML_law g) Q (360, [l0, l1, l2, l3, l4, l5, l6], .int (a + b) :: st, w, k, n) := Eq.trans (WP_at (M := (ML_law g)) rfl dL_law_359 (Or.inr rfl)) rfl
theorem eL_law_360 : WP (ML_law g) Q (360, [l0, l1, l2, l3, l4, l5, l6], .int a :: .ref p :: st, w, k, n) = gi (rd g w p) 1 fun N f => vp_in a N ∧ WP (ML_law g) Q (361, [l0, l1, l2, l3, l4, l5, l6], .int (f a.toNatClampNeg) :: st, w, k, n) := Eq.trans (WP_at (M := (ML_law g)) rfl dL_law_360 (Or.inr rfl)) rfl
theorem eL_law_361 : WP (ML_law g) Q (361, [l0, l1, l2, some (.ref p), l4, l5, l6], st, w, k, n) = WP (ML_law g) Q (362, [l0, l1, l2, some (.ref p), l4, l5, l6], .ref p :: st, w, k, n) := Eq.trans (WP_at (M := (ML_law g)) rfl dL_law_361 (Or.inr rfl)) rfl
theorem eL_law_361N : WP (ML_law g) Q (361, [l0, l1, l2, some .null, l4, l5, l6], st, w, k, n) = WP (ML_law g) Q (362, [l0, l1, l2, some .null, l4, l5, l6], .null :: st, w, k, n) := Eq.trans (WP_at (M := (ML_law g)) rfl dL_law_361 (Or.inr rfl)) rfl
theorem eL_law_362RR {z0 : Nat} {z1 : Int32} {z2 : Int32} {z3 : Nat} : WP (ML_law g) Q (362, [l0, l1, l2, l3, l4, l5, l6], .ref z3 :: .int z2 :: .int z1 :: .ref z0 :: st, w, k, n) = (wt st ≤ 8 ∧ k + 2 ≤ 58408 ∧ n + 12 ≤ 1451408 ∧ WP (ML_setEnd g) (kx (fun v w' => WP (ML_law g) Q (365, [l0, l1, l2, l3, l4, l5, l6], v.toList ++ st, w', k + 2, n + 12)) (fun E w' => Q (.inr E) w')) (0, [some (.ref z0), some (.int z1), some (.int z2), some (.ref z3), none], [], w, 0, 0)) := csS (M := (ML_law g)) (mc := (fun _ _ => 2)) (ms := (fun _ _ => 12)) (As := [.ref z0, .int z1, .int z2, .ref z3]) (rest := st) (ML_setEnd g) rfl rfl dL_law_362 (Nat.ne_of_beq_eq_false rfl) (by exact fun h => nomatch (show (none : Option Nat) = some 12 from h)) (by exact fun h => nomatch (show (none : Option Nat) = some 13 from h)) (by exact fun h => nomatch (show (none : Option Nat) = some 14 from h)) rfl rfl (by decide) (Nat.le_of_ble_eq_true rfl) (Nat.le_of_ble_eq_true rfl) rfl
theorem eL_law_362NR {z1 : Int32} {z2 : Int32} {z3 : Nat} : WP (ML_law g) Q (362, [l0, l1, l2, l3, l4, l5, l6], .ref z3 :: .int z2 :: .int z1 :: .null :: st, w, k, n) = (wt st ≤ 8 ∧ k + 2 ≤ 58408 ∧ n + 12 ≤ 1451408 ∧ WP (ML_setEnd g) (kx (fun v w' => WP (ML_law g) Q (365, [l0, l1, l2, l3, l4, l5, l6], v.toList ++ st, w', k + 2, n + 12)) (fun E w' => Q (.inr E) w')) (0, [some .null, some (.int z1), some (.int z2), some (.ref z3), none], [], w, 0, 0)) := csS (M := (ML_law g)) (mc := (fun _ _ => 2)) (ms := (fun _ _ => 12)) (As := [.null, .int z1, .int z2, .ref z3]) (rest := st) (ML_setEnd g) rfl rfl dL_law_362 (Nat.ne_of_beq_eq_false rfl) (by exact fun h => nomatch (show (none : Option Nat) = some 12 from h)) (by exact fun h => nomatch (show (none : Option Nat) = some 13 from h)) (by exact fun h => nomatch (show (none : Option Nat) = some 14 from h)) rfl rfl (by decide) (Nat.le_of_ble_eq_true rfl) (Nat.le_of_ble_eq_true rfl) rfl
theorem eL_law_362RN {z0 : Nat} {z1 : Int32} {z2 : Int32} : WP (ML_law g) Q (362, [l0, l1, l2, l3, l4, l5, l6], .null :: .int z2 :: .int z1 :: .ref z0 :: st, w, k, n) = (wt st ≤ 8 ∧ k + 2 ≤ 58408 ∧ n + 12 ≤ 1451408 ∧ WP (ML_setEnd g) (kx (fun v w' => WP (ML_law g) Q (365, [l0, l1, l2, l3, l4, l5, l6], v.toList ++ st, w', k + 2, n + 12)) (fun E w' => Q (.inr E) w')) (0, [some (.ref z0), some (.int z1), some (.int z2), some .null, none], [], w, 0, 0)) := csS (M := (ML_law g)) (mc := (fun _ _ => 2)) (ms := (fun _ _ => 12)) (As := [.ref z0, .int z1, .int z2, .null]) (rest := st) (ML_setEnd g) rfl rfl dL_law_362 (Nat.ne_of_beq_eq_false rfl) (by exact fun h => nomatch (show (none : Option Nat) = some 12 from h)) (by exact fun h => nomatch (show (none : Option Nat) = some 13 from h)) (by exact fun h => nomatch (show (none : Option Nat) = some 14 from h)) rfl rfl (by decide) (Nat.le_of_ble_eq_true rfl) (Nat.le_of_ble_eq_true rfl) rfl
theorem eL_law_362NN {z1 : Int32} {z2 : Int32} : WP (ML_law g) Q (362, [l0, l1, l2, l3, l4, l5, l6], .null :: .int z2 :: .int z1 :: .null :: st, w, k, n) = (wt st ≤ 8 ∧ k + 2 ≤ 58408 ∧ n + 12 ≤ 1451408 ∧ WP (ML_setEnd g) (kx (fun v w' => WP (ML_law g) Q (365, [l0, l1, l2, l3, l4, l5, l6], v.toList ++ st, w', k + 2, n + 12)) (fun E w' => Q (.inr E) w')) (0, [some .null, some (.int z1), some (.int z2), some .null, none], [], w, 0, 0)) := csS (M := (ML_law g)) (mc := (fun _ _ => 2)) (ms := (fun _ _ => 12)) (As := [.null, .int z1, .int z2, .null]) (rest := st) (ML_setEnd g) rfl rfl dL_law_362 (Nat.ne_of_beq_eq_false rfl) (by exact fun h => nomatch (show (none : Option Nat) = some 12 from h)) (by exact fun h => nomatch (show (none : Option Nat) = some 13 from h)) (by exact fun h => nomatch (show (none : Option Nat) = some 14 from h)) rfl rfl (by decide) (Nat.le_of_ble_eq_true rfl) (Nat.le_of_ble_eq_true rfl) rfl
theorem eL_law_365 : WP (ML_law g) Q (365, [l0, l1, l2, l3, l4, l5, l6], .int a :: st, w, k, n) = WP (ML_law g) Q (367, [l0, l1, l2, l3, nl l4, some (.int a), l6], st, w, k, n) := by rw [WP_at (M := (ML_law g)) rfl dL_law_365 (Or.inr rfl)]; exact and_t (Nat.le_of_ble_eq_true rfl)
theorem eL_law_367 : WP (ML_law g) Q (367, [l0, l1, some (.ref p), l3, l4, l5, l6], st, w, k, n) = WP (ML_law g) Q (368, [l0, l1, some (.ref p), l3, l4, l5, l6], .ref p :: st, w, k, n) := Eq.trans (WP_at (M := (ML_law g)) rfl dL_law_367 (Or.inr rfl)) rfl
theorem eL_law_367N : WP (ML_law g) Q (367, [l0, l1, some .null, l3, l4, l5, l6], st, w, k, n) = WP (ML_law g) Q (368, [l0, l1, some .null, l3, l4, l5, l6], .null :: st, w, k, n) := Eq.trans (WP_at (M := (ML_law g)) rfl dL_law_367 (Or.inr rfl)) rfl
theorem eL_law_368 : WP (ML_law g) Q (368, [some (.ref p), l1, l2, l3, l4, l5, l6], st, w, k, n) = WP (ML_law g) Q (369, [some (.ref p), l1, l2, l3, l4, l5, l6], .ref p :: st, w, k, n) := Eq.trans (WP_at (M := (ML_law g)) rfl dL_law_368 (Or.inr rfl)) rfl
theorem eL_law_368N : WP (ML_law g) Q (368, [some .null, l1, l2, l3, l4, l5, l6], st, w, k, n) = WP (ML_law g) Q (369, [some .null, l1, l2, l3, l4, l5, l6], .null :: st, w, k, n) := Eq.trans (WP_at (M := (ML_law g)) rfl dL_law_368 (Or.inr rfl)) rfl
theorem eL_law_369 : WP (ML_law g) Q (369, [l0, l1, l2, l3, some (.int a), l5, l6], st, w, k, n) = WP (ML_law g) Q (371, [l0, l1, l2, l3, some (.int a), l5, l6], .int a :: st, w, k, n) := Eq.trans (WP_at (M := (ML_law g)) rfl dL_law_369 (Or.inr rfl)) rfl
theorem eL_law_371 : WP (ML_law g) Q (371, [l0, l1, l2, l3, l4, l5, l6], st, w, k, n) = WP (ML_law g) Q (372, [l0, l1, l2, l3, l4, l5, l6], .int 1 :: st, w, k, n) := iconst_e rfl dL_law_371 (by decide)
theorem eL_law_372 : WP (ML_law g) Q (372, [l0, l1, l2, l3, l4, l5, l6], .int b :: .int a :: st, w, k, n) = WP (ML_law g) Q (373, [l0, l1, l2, l3, l4, l5, l6], .int (a + b) :: st, w, k, n) := Eq.trans (WP_at (M := (ML_law g)) rfl dL_law_372 (Or.inr rfl)) rfl
theorem eL_law_373 : WP (ML_law g) Q (373, [l0, l1, l2, l3, l4, l5, l6], .int a :: .ref p :: st, w, k, n) = gi (rd g w p) 1 fun N f => vp_in a N ∧ WP (ML_law g) Q (374, [l0, l1, l2, l3, l4, l5, l6], .int (f a.toNatClampNeg) :: st, w, k, n) := Eq.trans (WP_at (M := (ML_law g)) rfl dL_law_373 (Or.inr rfl)) rfl
theorem eL_law_374 : WP (ML_law g) Q (374, [some (.ref p), l1, l2, l3, l4, l5, l6], st, w, k, n) = WP (ML_law g) Q (375, [some (.ref p), l1, l2, l3, l4, l5, l6], .ref p :: st, w, k, n) := Eq.trans (WP_at (M := (ML_law g)) rfl dL_law_374 (Or.inr rfl)) rfl
theorem eL_law_374N : WP (ML_law g) Q (374, [some .null, l1, l2, l3, l4, l5, l6], st, w, k, n) = WP (ML_law g) Q (375, [some .null, l1, l2, l3, l4, l5, l6], .null :: st, w, k, n) := Eq.trans (WP_at (M := (ML_law g)) rfl dL_law_374 (Or.inr rfl)) rfl
theorem eL_law_375 : WP (ML_law g) Q (375, [l0, l1, l2, l3, some (.int a), l5, l6], st, w, k, n) = WP (ML_law g) Q (377, [l0, l1, l2, l3, some (.int a), l5, l6], .int a :: st, w, k, n) := Eq.trans (WP_at (M := (ML_law g)) rfl dL_law_375 (Or.inr rfl)) rfl
theorem eL_law_377 : WP (ML_law g) Q (377, [l0, l1, l2, l3, l4, l5, l6], st, w, k, n) = WP (ML_law g) Q (378, [l0, l1, l2, l3, l4, l5, l6], .int 2 :: st, w, k, n) := iconst_e rfl dL_law_377 (by decide)
theorem eL_law_378 : WP (ML_law g) Q (378, [l0, l1, l2, l3, l4, l5, l6], .int b :: .int a :: st, w, k, n) = WP (ML_law g) Q (379, [l0, l1, l2, l3, l4, l5, l6], .int (a + b) :: st, w, k, n) := Eq.trans (WP_at (M := (ML_law g)) rfl dL_law_378 (Or.inr rfl)) rfl
theorem eL_law_379 : WP (ML_law g) Q (379, [l0, l1, l2, l3, l4, l5, l6], .int a :: .ref p :: st, w, k, n) = gi (rd g w p) 1 fun N f => vp_in a N ∧ WP (ML_law g) Q (380, [l0, l1, l2, l3, l4, l5, l6], .int (f a.toNatClampNeg) :: st, w, k, n) := Eq.trans (WP_at (M := (ML_law g)) rfl dL_law_379 (Or.inr rfl)) rfl
theorem eL_law_380 {z0 : Int32} {z1 : Int32} : WP (ML_law g) Q (380, [l0, l1, l2, l3, l4, l5, l6], .int z1 :: .int z0 :: .ref p :: st, w, k, n) = (go (rd g w p) 7 (fun _ => True) ∧ wt st ≤ 8 ∧ k + 1 ≤ 58408 ∧ n + 4 ≤ 1451408 ∧ WP (MX3_setEnd g) (kx (fun v w' => WP (ML_law g) Q (383, [l0, l1, l2, l3, l4, l5, l6], v.toList ++ st, w', k + 1, n + 4)) (fun E w' => Q (.inr E) w')) (0, [some (.ref p), some (.int z0), some (.int z1), none], [], w, 0, 0)) := csV (M := (ML_law g)) (mc := (fun _ _ => 1)) (ms := (fun _ _ => 4)) (As := [.int z0, .int z1]) (rest := st) (MX3_setEnd g) rfl rfl dL_law_380 (by exact fun h => nomatch (show (none : Option Nat) = some 11 from h)) (by exact fun h => nomatch (show (none : Option Nat) = some 15 from h)) rfl rfl (by decide) (Nat.le_of_ble_eq_true rfl) (Nat.le_of_ble_eq_true rfl) rfl
theorem eL_law_383 : WP (ML_law g) Q (383, [l0, l1, l2, l3, l4, l5, l6], .int a :: st, w, k, n) = WP (ML_law g) Q (385, [l0, l1, l2, l3, l4, nl l5, some (.int a)], st, w, k, n) := by rw [WP_at (M := (ML_law g)) rfl dL_law_383 (Or.inr rfl)]; exact and_t (Nat.le_of_ble_eq_true rfl)
theorem eL_law_385 : WP (ML_law g) Q (385, [l0, l1, l2, l3, l4, l5, l6], st, w, k, n) = WP (ML_law g) Q (2246, [l0, l1, l2, l3, l4, l5, l6], st, w, k, n) := goto_e rfl dL_law_385 (by decide)
theorem eL_law_388 : WP (ML_law g) Q (388, [l0, some (.ref p), l2, l3, l4, l5, l6], st, w, k, n) = WP (ML_law g) Q (389, [l0, some (.ref p), l2, l3, l4, l5, l6], .ref p :: st, w, k, n) := Eq.trans (WP_at (M := (ML_law g)) rfl dL_law_388 (Or.inr rfl)) rfl
theorem eL_law_388N : WP (ML_law g) Q (388, [l0, some .null, l2, l3, l4, l5, l6], st, w, k, n) = WP (ML_law g) Q (389, [l0, some .null, l2, l3, l4, l5, l6], .null :: st, w, k, n) := Eq.trans (WP_at (M := (ML_law g)) rfl dL_law_388 (Or.inr rfl)) rfl
theorem eL_law_389 : WP (ML_law g) Q (389, [some (.ref p), l1, l2, l3, l4, l5, l6], st, w, k, n) = WP (ML_law g) Q (390, [some (.ref p), l1, l2, l3, l4, l5, l6], .ref p :: st, w, k, n) := Eq.trans (WP_at (M := (ML_law g)) rfl dL_law_389 (Or.inr rfl)) rfl
theorem eL_law_389N : WP (ML_law g) Q (389, [some .null, l1, l2, l3, l4, l5, l6], st, w, k, n) = WP (ML_law g) Q (390, [some .null, l1, l2, l3, l4, l5, l6], .null :: st, w, k, n) := Eq.trans (WP_at (M := (ML_law g)) rfl dL_law_389 (Or.inr rfl)) rfl
theorem eL_law_390 : WP (ML_law g) Q (390, [l0, l1, l2, l3, some (.int a), l5, l6], st, w, k, n) = WP (ML_law g) Q (392, [l0, l1, l2, l3, some (.int a), l5, l6], .int a :: st, w, k, n) := Eq.trans (WP_at (M := (ML_law g)) rfl dL_law_390 (Or.inr rfl)) rfl
theorem eL_law_392 : WP (ML_law g) Q (392, [l0, l1, l2, l3, l4, l5, l6], st, w, k, n) = WP (ML_law g) Q (393, [l0, l1, l2, l3, l4, l5, l6], .int 1 :: st, w, k, n) := iconst_e rfl dL_law_392 (by decide)
theorem eL_law_393 : WP (ML_law g) Q (393, [l0, l1, l2, l3, l4, l5, l6], .int b :: .int a :: st, w, k, n) = WP (ML_law g) Q (394, [l0, l1, l2, l3, l4, l5, l6], .int (a + b) :: st, w, k, n) := Eq.trans (WP_at (M := (ML_law g)) rfl dL_law_393 (Or.inr rfl)) rfl
theorem eL_law_394 : WP (ML_law g) Q (394, [l0, l1, l2, l3, l4, l5, l6], .int a :: .ref p :: st, w, k, n) = gi (rd g w p) 1 fun N f => vp_in a N ∧ WP (ML_law g) Q (395, [l0, l1, l2, l3, l4, l5, l6], .int (f a.toNatClampNeg) :: st, w, k, n) := Eq.trans (WP_at (M := (ML_law g)) rfl dL_law_394 (Or.inr rfl)) rfl
theorem eL_law_395 : WP (ML_law g) Q (395, [some (.ref p), l1, l2, l3, l4, l5, l6], st, w, k, n) = WP (ML_law g) Q (396, [some (.ref p), l1, l2, l3, l4, l5, l6], .ref p :: st, w, k, n) := Eq.trans (WP_at (M := (ML_law g)) rfl dL_law_395 (Or.inr rfl)) rfl
theorem eL_law_395N : WP (ML_law g) Q (395, [some .null, l1, l2, l3, l4, l5, l6], st, w, k, n) = WP (ML_law g) Q (396, [some .null, l1, l2, l3, l4, l5, l6], .null :: st, w, k, n) := Eq.trans (WP_at (M := (ML_law g)) rfl dL_law_395 (Or.inr rfl)) rfl
theorem eL_law_396 : WP (ML_law g) Q (396, [l0, l1, l2, l3, some (.int a), l5, l6], st, w, k, n) = WP (ML_law g) Q (398, [l0, l1, l2, l3, some (.int a), l5, l6], .int a :: st, w, k, n) := Eq.trans (WP_at (M := (ML_law g)) rfl dL_law_396 (Or.inr rfl)) rfl
theorem eL_law_398 : WP (ML_law g) Q (398, [l0, l1, l2, l3, l4, l5, l6], st, w, k, n) = WP (ML_law g) Q (399, [l0, l1, l2, l3, l4, l5, l6], .int 2 :: st, w, k, n) := iconst_e rfl dL_law_398 (by decide)
theorem eL_law_399 : WP (ML_law g) Q (399, [l0, l1, l2, l3, l4, l5, l6], .int b :: .int a :: st, w, k, n) = WP (ML_law g) Q (400, [l0, l1, l2, l3, l4, l5, l6], .int (a + b) :: st, w, k, n) := Eq.trans (WP_at (M := (ML_law g)) rfl dL_law_399 (Or.inr rfl)) rfl
theorem eL_law_400 : WP (ML_law g) Q (400, [l0, l1, l2, l3, l4, l5, l6], .int a :: .ref p :: st, w, k, n) = gi (rd g w p) 1 fun N f => vp_in a N ∧ WP (ML_law g) Q (401, [l0, l1, l2, l3, l4, l5, l6], .int (f a.toNatClampNeg) :: st, w, k, n) := Eq.trans (WP_at (M := (ML_law g)) rfl dL_law_400 (Or.inr rfl)) rfl
theorem eL_law_401 : WP (ML_law g) Q (401, [l0, l1, l2, some (.ref p), l4, l5, l6], st, w, k, n) = WP (ML_law g) Q (402, [l0, l1, l2, some (.ref p), l4, l5, l6], .ref p :: st, w, k, n) := Eq.trans (WP_at (M := (ML_law g)) rfl dL_law_401 (Or.inr rfl)) rfl
theorem eL_law_401N : WP (ML_law g) Q (401, [l0, l1, l2, some .null, l4, l5, l6], st, w, k, n) = WP (ML_law g) Q (402, [l0, l1, l2, some .null, l4, l5, l6], .null :: st, w, k, n) := Eq.trans (WP_at (M := (ML_law g)) rfl dL_law_401 (Or.inr rfl)) rfl
theorem eL_law_402RR {z0 : Nat} {z1 : Int32} {z2 : Int32} {z3 : Nat} : WP (ML_law g) Q (402, [l0, l1, l2, l3, l4, l5, l6], .ref z3 :: .int z2 :: .int z1 :: .ref z0 :: st, w, k, n) = (wt st ≤ 8 ∧ k + 1 ≤ 58408 ∧ n + 6 ≤ 1451408 ∧ WP (ML_move g) (kx (fun v w' => WP (ML_law g) Q (405, [l0, l1, l2, l3, l4, l5, l6], v.toList ++ st, w', k + 1, n + 6)) (fun E w' => Q (.inr E) w')) (0, [some (.ref z0), some (.int z1), some (.int z2), some (.ref z3), none], [], w, 0, 0)) := csS (M := (ML_law g)) (mc := (fun _ _ => 1)) (ms := (fun _ _ => 6)) (As := [.ref z0, .int z1, .int z2, .ref z3]) (rest := st) (ML_move g) rfl rfl dL_law_402 (Nat.ne_of_beq_eq_false rfl) (by exact fun h => nomatch (show (none : Option Nat) = some 12 from h)) (by exact fun h => nomatch (show (none : Option Nat) = some 13 from h)) (by exact fun h => nomatch (show (none : Option Nat) = some 14 from h)) rfl rfl (by decide) (Nat.le_of_ble_eq_true rfl) (Nat.le_of_ble_eq_true rfl) rfl
theorem eL_law_402NR {z1 : Int32} {z2 : Int32} {z3 : Nat} : WP (ML_law g) Q (402, [l0, l1, l2, l3, l4, l5, l6], .ref z3 :: .int z2 :: .int z1 :: .null :: st, w, k, n) = (wt st ≤ 8 ∧ k + 1 ≤ 58408 ∧ n + 6 ≤ 1451408 ∧ WP (ML_move g) (kx (fun v w' => WP (ML_law g) Q (405, [l0, l1, l2, l3, l4, l5, l6], v.toList ++ st, w', k + 1, n + 6)) (fun E w' => Q (.inr E) w')) (0, [some .null, some (.int z1), some (.int z2), some (.ref z3), none], [], w, 0, 0)) := csS (M := (ML_law g)) (mc := (fun _ _ => 1)) (ms := (fun _ _ => 6)) (As := [.null, .int z1, .int z2, .ref z3]) (rest := st) (ML_move g) rfl rfl dL_law_402 (Nat.ne_of_beq_eq_false rfl) (by exact fun h => nomatch (show (none : Option Nat) = some 12 from h)) (by exact fun h => nomatch (show (none : Option Nat) = some 13 from h)) (by exact fun h => nomatch (show (none : Option Nat) = some 14 from h)) rfl rfl (by decide) (Nat.le_of_ble_eq_true rfl) (Nat.le_of_ble_eq_true rfl) rfl
theorem eL_law_402RN {z0 : Nat} {z1 : Int32} {z2 : Int32} : WP (ML_law g) Q (402, [l0, l1, l2, l3, l4, l5, l6], .null :: .int z2 :: .int z1 :: .ref z0 :: st, w, k, n) = (wt st ≤ 8 ∧ k + 1 ≤ 58408 ∧ n + 6 ≤ 1451408 ∧ WP (ML_move g) (kx (fun v w' => WP (ML_law g) Q (405, [l0, l1, l2, l3, l4, l5, l6], v.toList ++ st, w', k + 1, n + 6)) (fun E w' => Q (.inr E) w')) (0, [some (.ref z0), some (.int z1), some (.int z2), some .null, none], [], w, 0, 0)) := csS (M := (ML_law g)) (mc := (fun _ _ => 1)) (ms := (fun _ _ => 6)) (As := [.ref z0, .int z1, .int z2, .null]) (rest := st) (ML_move g) rfl rfl dL_law_402 (Nat.ne_of_beq_eq_false rfl) (by exact fun h => nomatch (show (none : Option Nat) = some 12 from h)) (by exact fun h => nomatch (show (none : Option Nat) = some 13 from h)) (by exact fun h => nomatch (show (none : Option Nat) = some 14 from h)) rfl rfl (by decide) (Nat.le_of_ble_eq_true rfl) (Nat.le_of_ble_eq_true rfl) rfl
theorem eL_law_402NN {z1 : Int32} {z2 : Int32} : WP (ML_law g) Q (402, [l0, l1, l2, l3, l4, l5, l6], .null :: .int z2 :: .int z1 :: .null :: st, w, k, n) = (wt st ≤ 8 ∧ k + 1 ≤ 58408 ∧ n + 6 ≤ 1451408 ∧ WP (ML_move g) (kx (fun v w' => WP (ML_law g) Q (405, [l0, l1, l2, l3, l4, l5, l6], v.toList ++ st, w', k + 1, n + 6)) (fun E w' => Q (.inr E) w')) (0, [some .null, some (.int z1), some (.int z2), some .null, none], [], w, 0, 0)) := csS (M := (ML_law g)) (mc := (fun _ _ => 1)) (ms := (fun _ _ => 6)) (As := [.null, .int z1, .int z2, .null]) (rest := st) (ML_move g) rfl rfl dL_law_402 (Nat.ne_of_beq_eq_false rfl) (by exact fun h => nomatch (show (none : Option Nat) = some 12 from h)) (by exact fun h => nomatch (show (none : Option Nat) = some 13 from h)) (by exact fun h => nomatch (show (none : Option Nat) = some 14 from h)) rfl rfl (by decide) (Nat.le_of_ble_eq_true rfl) (Nat.le_of_ble_eq_true rfl) rfl
theorem eL_law_405 : WP (ML_law g) Q (405, [l0, l1, l2, l3, l4, l5, l6], .int a :: st, w, k, n) = WP (ML_law g) Q (407, [l0, l1, l2, l3, nl l4, some (.int a), l6], st, w, k, n) := by rw [WP_at (M := (ML_law g)) rfl dL_law_405 (Or.inr rfl)]; exact and_t (Nat.le_of_ble_eq_true rfl)
theorem eL_law_407 : WP (ML_law g) Q (407, [l0, l1, some (.ref p), l3, l4, l5, l6], st, w, k, n) = WP (ML_law g) Q (408, [l0, l1, some (.ref p), l3, l4, l5, l6], .ref p :: st, w, k, n) := Eq.trans (WP_at (M := (ML_law g)) rfl dL_law_407 (Or.inr rfl)) rfl
theorem eL_law_407N : WP (ML_law g) Q (407, [l0, l1, some .null, l3, l4, l5, l6], st, w, k, n) = WP (ML_law g) Q (408, [l0, l1, some .null, l3, l4, l5, l6], .null :: st, w, k, n) := Eq.trans (WP_at (M := (ML_law g)) rfl dL_law_407 (Or.inr rfl)) rfl
theorem eL_law_408 : WP (ML_law g) Q (408, [some (.ref p), l1, l2, l3, l4, l5, l6], st, w, k, n) = WP (ML_law g) Q (409, [some (.ref p), l1, l2, l3, l4, l5, l6], .ref p :: st, w, k, n) := Eq.trans (WP_at (M := (ML_law g)) rfl dL_law_408 (Or.inr rfl)) rfl
theorem eL_law_408N : WP (ML_law g) Q (408, [some .null, l1, l2, l3, l4, l5, l6], st, w, k, n) = WP (ML_law g) Q (409, [some .null, l1, l2, l3, l4, l5, l6], .null :: st, w, k, n) := Eq.trans (WP_at (M := (ML_law g)) rfl dL_law_408 (Or.inr rfl)) rfl
theorem eL_law_409 : WP (ML_law g) Q (409, [l0, l1, l2, l3, some (.int a), l5, l6], st, w, k, n) = WP (ML_law g) Q (411, [l0, l1, l2, l3, some (.int a), l5, l6], .int a :: st, w, k, n) := Eq.trans (WP_at (M := (ML_law g)) rfl dL_law_409 (Or.inr rfl)) rfl
theorem eL_law_411 : WP (ML_law g) Q (411, [l0, l1, l2, l3, l4, l5, l6], st, w, k, n) = WP (ML_law g) Q (412, [l0, l1, l2, l3, l4, l5, l6], .int 1 :: st, w, k, n) := iconst_e rfl dL_law_411 (by decide)
theorem eL_law_412 : WP (ML_law g) Q (412, [l0, l1, l2, l3, l4, l5, l6], .int b :: .int a :: st, w, k, n) = WP (ML_law g) Q (413, [l0, l1, l2, l3, l4, l5, l6], .int (a + b) :: st, w, k, n) := Eq.trans (WP_at (M := (ML_law g)) rfl dL_law_412 (Or.inr rfl)) rfl
theorem eL_law_413 : WP (ML_law g) Q (413, [l0, l1, l2, l3, l4, l5, l6], .int a :: .ref p :: st, w, k, n) = gi (rd g w p) 1 fun N f => vp_in a N ∧ WP (ML_law g) Q (414, [l0, l1, l2, l3, l4, l5, l6], .int (f a.toNatClampNeg) :: st, w, k, n) := Eq.trans (WP_at (M := (ML_law g)) rfl dL_law_413 (Or.inr rfl)) rfl
theorem eL_law_414 : WP (ML_law g) Q (414, [some (.ref p), l1, l2, l3, l4, l5, l6], st, w, k, n) = WP (ML_law g) Q (415, [some (.ref p), l1, l2, l3, l4, l5, l6], .ref p :: st, w, k, n) := Eq.trans (WP_at (M := (ML_law g)) rfl dL_law_414 (Or.inr rfl)) rfl
theorem eL_law_414N : WP (ML_law g) Q (414, [some .null, l1, l2, l3, l4, l5, l6], st, w, k, n) = WP (ML_law g) Q (415, [some .null, l1, l2, l3, l4, l5, l6], .null :: st, w, k, n) := Eq.trans (WP_at (M := (ML_law g)) rfl dL_law_414 (Or.inr rfl)) rfl
theorem eL_law_415 : WP (ML_law g) Q (415, [l0, l1, l2, l3, some (.int a), l5, l6], st, w, k, n) = WP (ML_law g) Q (417, [l0, l1, l2, l3, some (.int a), l5, l6], .int a :: st, w, k, n) := Eq.trans (WP_at (M := (ML_law g)) rfl dL_law_415 (Or.inr rfl)) rfl
theorem eL_law_417 : WP (ML_law g) Q (417, [l0, l1, l2, l3, l4, l5, l6], st, w, k, n) = WP (ML_law g) Q (418, [l0, l1, l2, l3, l4, l5, l6], .int 2 :: st, w, k, n) := iconst_e rfl dL_law_417 (by decide)
theorem eL_law_418 : WP (ML_law g) Q (418, [l0, l1, l2, l3, l4, l5, l6], .int b :: .int a :: st, w, k, n) = WP (ML_law g) Q (419, [l0, l1, l2, l3, l4, l5, l6], .int (a + b) :: st, w, k, n) := Eq.trans (WP_at (M := (ML_law g)) rfl dL_law_418 (Or.inr rfl)) rfl
theorem eL_law_419 : WP (ML_law g) Q (419, [l0, l1, l2, l3, l4, l5, l6], .int a :: .ref p :: st, w, k, n) = gi (rd g w p) 1 fun N f => vp_in a N ∧ WP (ML_law g) Q (420, [l0, l1, l2, l3, l4, l5, l6], .int (f a.toNatClampNeg) :: st, w, k, n) := Eq.trans (WP_at (M := (ML_law g)) rfl dL_law_419 (Or.inr rfl)) rfl
theorem eL_law_420 {z0 : Int32} {z1 : Int32} : WP (ML_law g) Q (420, [l0, l1, l2, l3, l4, l5, l6], .int z1 :: .int z0 :: .ref p :: st, w, k, n) = (go (rd g w p) 7 (fun _ => True) ∧ wt st ≤ 8 ∧ k + 0 ≤ 58408 ∧ n + 0 ≤ 1451408 ∧ WP (MX3_move g) (kx (fun v w' => WP (ML_law g) Q (423, [l0, l1, l2, l3, l4, l5, l6], v.toList ++ st, w', k + 0, n + 0)) (fun E w' => Q (.inr E) w')) (0, [some (.ref p), some (.int z0), some (.int z1)], [], w, 0, 0)) := csV (M := (ML_law g)) (mc := (fun _ _ => 0)) (ms := (fun _ _ => 0)) (As := [.int z0, .int z1]) (rest := st) (MX3_move g) rfl rfl dL_law_420 (by exact fun h => nomatch (show (none : Option Nat) = some 11 from h)) (by exact fun h => nomatch (show (none : Option Nat) = some 15 from h)) rfl rfl (by decide) (Nat.le_of_ble_eq_true rfl) (Nat.le_of_ble_eq_true rfl) rfl
theorem eL_law_423 : WP (ML_law g) Q (423, [l0, l1, l2, l3, l4, l5, l6], .int a :: st, w, k, n) = WP (ML_law g) Q (425, [l0, l1, l2, l3, l4, nl l5, some (.int a)], st, w, k, n) := by rw [WP_at (M := (ML_law g)) rfl dL_law_423 (Or.inr rfl)]; exact and_t (Nat.le_of_ble_eq_true rfl)
theorem eL_law_425 : WP (ML_law g) Q (425, [l0, l1, some (.ref p), l3, l4, l5, l6], st, w, k, n) = WP (ML_law g) Q (426, [l0, l1, some (.ref p), l3, l4, l5, l6], .ref p :: st, w, k, n) := Eq.trans (WP_at (M := (ML_law g)) rfl dL_law_425 (Or.inr rfl)) rfl
theorem eL_law_425N : WP (ML_law g) Q (425, [l0, l1, some .null, l3, l4, l5, l6], st, w, k, n) = WP (ML_law g) Q (426, [l0, l1, some .null, l3, l4, l5, l6], .null :: st, w, k, n) := Eq.trans (WP_at (M := (ML_law g)) rfl dL_law_425 (Or.inr rfl)) rfl
theorem eL_law_426  : WP (ML_law g) Q (426, [l0, l1, l2, l3, l4, l5, l6], .ref p :: st, w, k, n) = (go (rd g w p) 7 (fun _ => True) ∧ wt st ≤ 8 ∧ k + 0 ≤ 58408 ∧ n + 0 ≤ 1451408 ∧ WP (MX3_thrown g) (kx (fun v w' => WP (ML_law g) Q (429, [l0, l1, l2, l3, l4, l5, l6], v.toList ++ st, w', k + 0, n + 0)) (fun E w' => Q (.inr E) w')) (0, [some (.ref p)], [], w, 0, 0)) := csV (M := (ML_law g)) (mc := (fun _ _ => 0)) (ms := (fun _ _ => 0)) (As := []) (rest := st) (MX3_thrown g) rfl rfl dL_law_426 (by exact fun h => nomatch (show (none : Option Nat) = some 11 from h)) (by exact fun h => nomatch (show (none : Option Nat) = some 15 from h)) rfl rfl (by decide) (Nat.le_of_ble_eq_true rfl) (Nat.le_of_ble_eq_true rfl) rfl
theorem eL_law_429 : WP (ML_law g) Q (429, [l0, l1, l2, l3, l4, some (.int a), l6], st, w, k, n) = WP (ML_law g) Q (431, [l0, l1, l2, l3, l4, some (.int a), l6], .int a :: st, w, k, n) := Eq.trans (WP_at (M := (ML_law g)) rfl dL_law_429 (Or.inr rfl)) rfl
theorem eL_law_431 : WP (ML_law g) Q (431, [l0, l1, l2, l3, l4, l5, l6], .int b :: .int a :: st, w, k, n) = if a = b then WP (ML_law g) Q (436, [l0, l1, l2, l3, l4, l5, l6], st, w, k, n) else WP (ML_law g) Q (434, [l0, l1, l2, l3, l4, l5, l6], st, w, k, n) := icm_e (a = b) rfl dL_law_431 rfl (by decide)
theorem eL_law_434 : WP (ML_law g) Q (434, [l0, l1, l2, l3, l4, l5, l6], st, w, k, n) = WP (ML_law g) Q (435, [l0, l1, l2, l3, l4, l5, l6], .int 0 :: st, w, k, n) := iconst_e rfl dL_law_434 (by decide)
set_option maxRecDepth 20000 in
theorem eL_law_435 : WP (ML_law g) Q (435, [l0, l1, l2, l3, l4, l5, l6], [.int a], w, k, n) = (narrow (.boolean) (.int a) = .int a ∧ k ≤ 58408 ∧ n ≤ 1451408 ∧ Q (.inl (some (.int a))) w) := iret_e rfl dL_law_435 rfl
theorem eL_law_436 : WP (ML_law g) Q (436, [l0, l1, l2, l3, l4, some (.int a), l6], st, w, k, n) = WP (ML_law g) Q (438, [l0, l1, l2, l3, l4, some (.int a), l6], .int a :: st, w, k, n) := Eq.trans (WP_at (M := (ML_law g)) rfl dL_law_436 (Or.inr rfl)) rfl
theorem eL_law_438 : WP (ML_law g) Q (438, [l0, l1, l2, l3, l4, l5, l6], .int a :: st, w, k, n) = if a = 0 then WP (ML_law g) Q (441, [l0, l1, l2, l3, l4, l5, l6], st, w, k, n) else WP (ML_law g) Q (454, [l0, l1, l2, l3, l4, l5, l6], st, w, k, n) := ifcn_e (a = 0) rfl dL_law_438 rfl (by decide)
theorem eL_law_441 : WP (ML_law g) Q (441, [l0, l1, l2, some (.ref p), l4, l5, l6], st, w, k, n) = WP (ML_law g) Q (442, [l0, l1, l2, some (.ref p), l4, l5, l6], .ref p :: st, w, k, n) := Eq.trans (WP_at (M := (ML_law g)) rfl dL_law_441 (Or.inr rfl)) rfl
theorem eL_law_441N : WP (ML_law g) Q (441, [l0, l1, l2, some .null, l4, l5, l6], st, w, k, n) = WP (ML_law g) Q (442, [l0, l1, l2, some .null, l4, l5, l6], .null :: st, w, k, n) := Eq.trans (WP_at (M := (ML_law g)) rfl dL_law_441 (Or.inr rfl)) rfl
theorem eL_law_442 : WP (ML_law g) Q (442, [l0, l1, l2, l3, l4, l5, l6], .ref p :: st, w, k, n) = go (rd g w p) 6 fun fs => ∃ v, fs[0]? = some v ∧ WP (ML_law g) Q (445, [l0, l1, l2, l3, l4, l5, l6], v :: st, w, k, n) := get_e rfl dL_law_442 rfl
theorem eL_law_445 : WP (ML_law g) Q (445, [l0, l1, l2, l3, l4, l5, some (.int a)], st, w, k, n) = WP (ML_law g) Q (447, [l0, l1, l2, l3, l4, l5, some (.int a)], .int a :: st, w, k, n) := Eq.trans (WP_at (M := (ML_law g)) rfl dL_law_445 (Or.inr rfl)) rfl
theorem eL_law_447 : WP (ML_law g) Q (447, [l0, l1, l2, l3, l4, l5, l6], .int a :: st, w, k, n) = WP (ML_law g) Q (448, [l0, l1, l2, l3, l4, l5, l6], .long a.toInt64 :: st, w, k, n) := Eq.trans (WP_at (M := (ML_law g)) rfl dL_law_447 (Or.inr rfl)) rfl
theorem eL_law_448 : WP (ML_law g) Q (448, [l0, l1, l2, l3, l4, l5, l6], .long y :: .long x :: st, w, k, n) = WP (ML_law g) Q (449, [l0, l1, l2, l3, l4, l5, l6], .int (lg_cmp x y) :: st, w, k, n) := Eq.trans (WP_at (M := (ML_law g)) rfl dL_law_448 (Or.inr rfl)) rfl
theorem eL_law_449 : WP (ML_law g) Q (449, [l0, l1, l2, l3, l4, l5, l6], .int a :: st, w, k, n) = if a = 0 then WP (ML_law g) Q (454, [l0, l1, l2, l3, l4, l5, l6], st, w, k, n) else WP (ML_law g) Q (452, [l0, l1, l2, l3, l4, l5, l6], st, w, k, n) := ifc_e (a = 0) rfl dL_law_449 rfl (by decide)
theorem eL_law_452 : WP (ML_law g) Q (452, [l0, l1, l2, l3, l4, l5, l6], st, w, k, n) = WP (ML_law g) Q (453, [l0, l1, l2, l3, l4, l5, l6], .int 0 :: st, w, k, n) := iconst_e rfl dL_law_452 (by decide)
set_option maxRecDepth 20000 in
theorem eL_law_453 : WP (ML_law g) Q (453, [l0, l1, l2, l3, l4, l5, l6], [.int a], w, k, n) = (narrow (.boolean) (.int a) = .int a ∧ k ≤ 58408 ∧ n ≤ 1451408 ∧ Q (.inl (some (.int a))) w) := iret_e rfl dL_law_453 rfl
theorem eL_law_454 : WP (ML_law g) Q (454, [l0, l1, l2, l3, l4, l5, l6], st, w, k, n) = WP (ML_law g) Q (2246, [l0, l1, l2, l3, l4, l5, l6], st, w, k, n) := goto_e rfl dL_law_454 (by decide)
theorem eL_law_457 : WP (ML_law g) Q (457, [l0, some (.ref p), l2, l3, l4, l5, l6], st, w, k, n) = WP (ML_law g) Q (458, [l0, some (.ref p), l2, l3, l4, l5, l6], .ref p :: st, w, k, n) := Eq.trans (WP_at (M := (ML_law g)) rfl dL_law_457 (Or.inr rfl)) rfl
theorem eL_law_457N : WP (ML_law g) Q (457, [l0, some .null, l2, l3, l4, l5, l6], st, w, k, n) = WP (ML_law g) Q (458, [l0, some .null, l2, l3, l4, l5, l6], .null :: st, w, k, n) := Eq.trans (WP_at (M := (ML_law g)) rfl dL_law_457 (Or.inr rfl)) rfl
theorem eL_law_458 : WP (ML_law g) Q (458, [some (.ref p), l1, l2, l3, l4, l5, l6], st, w, k, n) = WP (ML_law g) Q (459, [some (.ref p), l1, l2, l3, l4, l5, l6], .ref p :: st, w, k, n) := Eq.trans (WP_at (M := (ML_law g)) rfl dL_law_458 (Or.inr rfl)) rfl
theorem eL_law_458N : WP (ML_law g) Q (458, [some .null, l1, l2, l3, l4, l5, l6], st, w, k, n) = WP (ML_law g) Q (459, [some .null, l1, l2, l3, l4, l5, l6], .null :: st, w, k, n) := Eq.trans (WP_at (M := (ML_law g)) rfl dL_law_458 (Or.inr rfl)) rfl
theorem eL_law_459 : WP (ML_law g) Q (459, [l0, l1, l2, l3, some (.int a), l5, l6], st, w, k, n) = WP (ML_law g) Q (461, [l0, l1, l2, l3, some (.int a), l5, l6], .int a :: st, w, k, n) := Eq.trans (WP_at (M := (ML_law g)) rfl dL_law_459 (Or.inr rfl)) rfl
theorem eL_law_461 : WP (ML_law g) Q (461, [l0, l1, l2, l3, l4, l5, l6], st, w, k, n) = WP (ML_law g) Q (462, [l0, l1, l2, l3, l4, l5, l6], .int 1 :: st, w, k, n) := iconst_e rfl dL_law_461 (by decide)
theorem eL_law_462 : WP (ML_law g) Q (462, [l0, l1, l2, l3, l4, l5, l6], .int b :: .int a :: st, w, k, n) = WP (ML_law g) Q (463, [l0, l1, l2, l3, l4, l5, l6], .int (a + b) :: st, w, k, n) := Eq.trans (WP_at (M := (ML_law g)) rfl dL_law_462 (Or.inr rfl)) rfl
theorem eL_law_463 : WP (ML_law g) Q (463, [l0, l1, l2, l3, l4, l5, l6], .int a :: .ref p :: st, w, k, n) = gi (rd g w p) 1 fun N f => vp_in a N ∧ WP (ML_law g) Q (464, [l0, l1, l2, l3, l4, l5, l6], .int (f a.toNatClampNeg) :: st, w, k, n) := Eq.trans (WP_at (M := (ML_law g)) rfl dL_law_463 (Or.inr rfl)) rfl
theorem eL_law_464 : WP (ML_law g) Q (464, [some (.ref p), l1, l2, l3, l4, l5, l6], st, w, k, n) = WP (ML_law g) Q (465, [some (.ref p), l1, l2, l3, l4, l5, l6], .ref p :: st, w, k, n) := Eq.trans (WP_at (M := (ML_law g)) rfl dL_law_464 (Or.inr rfl)) rfl
theorem eL_law_464N : WP (ML_law g) Q (464, [some .null, l1, l2, l3, l4, l5, l6], st, w, k, n) = WP (ML_law g) Q (465, [some .null, l1, l2, l3, l4, l5, l6], .null :: st, w, k, n) := Eq.trans (WP_at (M := (ML_law g)) rfl dL_law_464 (Or.inr rfl)) rfl
theorem eL_law_465 : WP (ML_law g) Q (465, [l0, l1, l2, l3, some (.int a), l5, l6], st, w, k, n) = WP (ML_law g) Q (467, [l0, l1, l2, l3, some (.int a), l5, l6], .int a :: st, w, k, n) := Eq.trans (WP_at (M := (ML_law g)) rfl dL_law_465 (Or.inr rfl)) rfl
theorem eL_law_467 : WP (ML_law g) Q (467, [l0, l1, l2, l3, l4, l5, l6], st, w, k, n) = WP (ML_law g) Q (468, [l0, l1, l2, l3, l4, l5, l6], .int 2 :: st, w, k, n) := iconst_e rfl dL_law_467 (by decide)
theorem eL_law_468 : WP (ML_law g) Q (468, [l0, l1, l2, l3, l4, l5, l6], .int b :: .int a :: st, w, k, n) = WP (ML_law g) Q (469, [l0, l1, l2, l3, l4, l5, l6], .int (a + b) :: st, w, k, n) := Eq.trans (WP_at (M := (ML_law g)) rfl dL_law_468 (Or.inr rfl)) rfl
theorem eL_law_469 : WP (ML_law g) Q (469, [l0, l1, l2, l3, l4, l5, l6], .int a :: .ref p :: st, w, k, n) = gi (rd g w p) 1 fun N f => vp_in a N ∧ WP (ML_law g) Q (470, [l0, l1, l2, l3, l4, l5, l6], .int (f a.toNatClampNeg) :: st, w, k, n) := Eq.trans (WP_at (M := (ML_law g)) rfl dL_law_469 (Or.inr rfl)) rfl
theorem eL_law_470 : WP (ML_law g) Q (470, [l0, l1, l2, some (.ref p), l4, l5, l6], st, w, k, n) = WP (ML_law g) Q (471, [l0, l1, l2, some (.ref p), l4, l5, l6], .ref p :: st, w, k, n) := Eq.trans (WP_at (M := (ML_law g)) rfl dL_law_470 (Or.inr rfl)) rfl
theorem eL_law_470N : WP (ML_law g) Q (470, [l0, l1, l2, some .null, l4, l5, l6], st, w, k, n) = WP (ML_law g) Q (471, [l0, l1, l2, some .null, l4, l5, l6], .null :: st, w, k, n) := Eq.trans (WP_at (M := (ML_law g)) rfl dL_law_470 (Or.inr rfl)) rfl
theorem eL_law_471RR {z0 : Nat} {z1 : Int32} {z2 : Int32} {z3 : Nat} : WP (ML_law g) Q (471, [l0, l1, l2, l3, l4, l5, l6], .ref z3 :: .int z2 :: .int z1 :: .ref z0 :: st, w, k, n) = (wt st ≤ 8 ∧ k + 2 ≤ 58408 ∧ n + 12 ≤ 1451408 ∧ WP (ML_copy g) (kx (fun v w' => WP (ML_law g) Q (474, [l0, l1, l2, l3, l4, l5, l6], v.toList ++ st, w', k + 2, n + 12)) (fun E w' => Q (.inr E) w')) (0, [some (.ref z0), some (.int z1), some (.int z2), some (.ref z3), none], [], w, 0, 0)) := csS (M := (ML_law g)) (mc := (fun _ _ => 2)) (ms := (fun _ _ => 12)) (As := [.ref z0, .int z1, .int z2, .ref z3]) (rest := st) (ML_copy g) rfl rfl dL_law_471 (Nat.ne_of_beq_eq_false rfl) (by exact fun h => nomatch (show (none : Option Nat) = some 12 from h)) (by exact fun h => nomatch (show (none : Option Nat) = some 13 from h)) (by exact fun h => nomatch (show (none : Option Nat) = some 14 from h)) rfl rfl (by decide) (Nat.le_of_ble_eq_true rfl) (Nat.le_of_ble_eq_true rfl) rfl
theorem eL_law_471NR {z1 : Int32} {z2 : Int32} {z3 : Nat} : WP (ML_law g) Q (471, [l0, l1, l2, l3, l4, l5, l6], .ref z3 :: .int z2 :: .int z1 :: .null :: st, w, k, n) = (wt st ≤ 8 ∧ k + 2 ≤ 58408 ∧ n + 12 ≤ 1451408 ∧ WP (ML_copy g) (kx (fun v w' => WP (ML_law g) Q (474, [l0, l1, l2, l3, l4, l5, l6], v.toList ++ st, w', k + 2, n + 12)) (fun E w' => Q (.inr E) w')) (0, [some .null, some (.int z1), some (.int z2), some (.ref z3), none], [], w, 0, 0)) := csS (M := (ML_law g)) (mc := (fun _ _ => 2)) (ms := (fun _ _ => 12)) (As := [.null, .int z1, .int z2, .ref z3]) (rest := st) (ML_copy g) rfl rfl dL_law_471 (Nat.ne_of_beq_eq_false rfl) (by exact fun h => nomatch (show (none : Option Nat) = some 12 from h)) (by exact fun h => nomatch (show (none : Option Nat) = some 13 from h)) (by exact fun h => nomatch (show (none : Option Nat) = some 14 from h)) rfl rfl (by decide) (Nat.le_of_ble_eq_true rfl) (Nat.le_of_ble_eq_true rfl) rfl
theorem eL_law_471RN {z0 : Nat} {z1 : Int32} {z2 : Int32} : WP (ML_law g) Q (471, [l0, l1, l2, l3, l4, l5, l6], .null :: .int z2 :: .int z1 :: .ref z0 :: st, w, k, n) = (wt st ≤ 8 ∧ k + 2 ≤ 58408 ∧ n + 12 ≤ 1451408 ∧ WP (ML_copy g) (kx (fun v w' => WP (ML_law g) Q (474, [l0, l1, l2, l3, l4, l5, l6], v.toList ++ st, w', k + 2, n + 12)) (fun E w' => Q (.inr E) w')) (0, [some (.ref z0), some (.int z1), some (.int z2), some .null, none], [], w, 0, 0)) := csS (M := (ML_law g)) (mc := (fun _ _ => 2)) (ms := (fun _ _ => 12)) (As := [.ref z0, .int z1, .int z2, .null]) (rest := st) (ML_copy g) rfl rfl dL_law_471 (Nat.ne_of_beq_eq_false rfl) (by exact fun h => nomatch (show (none : Option Nat) = some 12 from h)) (by exact fun h => nomatch (show (none : Option Nat) = some 13 from h)) (by exact fun h => nomatch (show (none : Option Nat) = some 14 from h)) rfl rfl (by decide) (Nat.le_of_ble_eq_true rfl) (Nat.le_of_ble_eq_true rfl) rfl
theorem eL_law_471NN {z1 : Int32} {z2 : Int32} : WP (ML_law g) Q (471, [l0, l1, l2, l3, l4, l5, l6], .null :: .int z2 :: .int z1 :: .null :: st, w, k, n) = (wt st ≤ 8 ∧ k + 2 ≤ 58408 ∧ n + 12 ≤ 1451408 ∧ WP (ML_copy g) (kx (fun v w' => WP (ML_law g) Q (474, [l0, l1, l2, l3, l4, l5, l6], v.toList ++ st, w', k + 2, n + 12)) (fun E w' => Q (.inr E) w')) (0, [some .null, some (.int z1), some (.int z2), some .null, none], [], w, 0, 0)) := csS (M := (ML_law g)) (mc := (fun _ _ => 2)) (ms := (fun _ _ => 12)) (As := [.null, .int z1, .int z2, .null]) (rest := st) (ML_copy g) rfl rfl dL_law_471 (Nat.ne_of_beq_eq_false rfl) (by exact fun h => nomatch (show (none : Option Nat) = some 12 from h)) (by exact fun h => nomatch (show (none : Option Nat) = some 13 from h)) (by exact fun h => nomatch (show (none : Option Nat) = some 14 from h)) rfl rfl (by decide) (Nat.le_of_ble_eq_true rfl) (Nat.le_of_ble_eq_true rfl) rfl
theorem eL_law_474 : WP (ML_law g) Q (474, [l0, l1, l2, l3, l4, l5, l6], .int a :: st, w, k, n) = WP (ML_law g) Q (476, [l0, l1, l2, l3, nl l4, some (.int a), l6], st, w, k, n) := by rw [WP_at (M := (ML_law g)) rfl dL_law_474 (Or.inr rfl)]; exact and_t (Nat.le_of_ble_eq_true rfl)
theorem eL_law_476 : WP (ML_law g) Q (476, [l0, l1, some (.ref p), l3, l4, l5, l6], st, w, k, n) = WP (ML_law g) Q (477, [l0, l1, some (.ref p), l3, l4, l5, l6], .ref p :: st, w, k, n) := Eq.trans (WP_at (M := (ML_law g)) rfl dL_law_476 (Or.inr rfl)) rfl
theorem eL_law_476N : WP (ML_law g) Q (476, [l0, l1, some .null, l3, l4, l5, l6], st, w, k, n) = WP (ML_law g) Q (477, [l0, l1, some .null, l3, l4, l5, l6], .null :: st, w, k, n) := Eq.trans (WP_at (M := (ML_law g)) rfl dL_law_476 (Or.inr rfl)) rfl
theorem eL_law_477 : WP (ML_law g) Q (477, [some (.ref p), l1, l2, l3, l4, l5, l6], st, w, k, n) = WP (ML_law g) Q (478, [some (.ref p), l1, l2, l3, l4, l5, l6], .ref p :: st, w, k, n) := Eq.trans (WP_at (M := (ML_law g)) rfl dL_law_477 (Or.inr rfl)) rfl
theorem eL_law_477N : WP (ML_law g) Q (477, [some .null, l1, l2, l3, l4, l5, l6], st, w, k, n) = WP (ML_law g) Q (478, [some .null, l1, l2, l3, l4, l5, l6], .null :: st, w, k, n) := Eq.trans (WP_at (M := (ML_law g)) rfl dL_law_477 (Or.inr rfl)) rfl
theorem eL_law_478 : WP (ML_law g) Q (478, [l0, l1, l2, l3, some (.int a), l5, l6], st, w, k, n) = WP (ML_law g) Q (480, [l0, l1, l2, l3, some (.int a), l5, l6], .int a :: st, w, k, n) := Eq.trans (WP_at (M := (ML_law g)) rfl dL_law_478 (Or.inr rfl)) rfl
theorem eL_law_480 : WP (ML_law g) Q (480, [l0, l1, l2, l3, l4, l5, l6], st, w, k, n) = WP (ML_law g) Q (481, [l0, l1, l2, l3, l4, l5, l6], .int 1 :: st, w, k, n) := iconst_e rfl dL_law_480 (by decide)
theorem eL_law_481 : WP (ML_law g) Q (481, [l0, l1, l2, l3, l4, l5, l6], .int b :: .int a :: st, w, k, n) = WP (ML_law g) Q (482, [l0, l1, l2, l3, l4, l5, l6], .int (a + b) :: st, w, k, n) := Eq.trans (WP_at (M := (ML_law g)) rfl dL_law_481 (Or.inr rfl)) rfl
theorem eL_law_482 : WP (ML_law g) Q (482, [l0, l1, l2, l3, l4, l5, l6], .int a :: .ref p :: st, w, k, n) = gi (rd g w p) 1 fun N f => vp_in a N ∧ WP (ML_law g) Q (483, [l0, l1, l2, l3, l4, l5, l6], .int (f a.toNatClampNeg) :: st, w, k, n) := Eq.trans (WP_at (M := (ML_law g)) rfl dL_law_482 (Or.inr rfl)) rfl
theorem eL_law_483 : WP (ML_law g) Q (483, [some (.ref p), l1, l2, l3, l4, l5, l6], st, w, k, n) = WP (ML_law g) Q (484, [some (.ref p), l1, l2, l3, l4, l5, l6], .ref p :: st, w, k, n) := Eq.trans (WP_at (M := (ML_law g)) rfl dL_law_483 (Or.inr rfl)) rfl
theorem eL_law_483N : WP (ML_law g) Q (483, [some .null, l1, l2, l3, l4, l5, l6], st, w, k, n) = WP (ML_law g) Q (484, [some .null, l1, l2, l3, l4, l5, l6], .null :: st, w, k, n) := Eq.trans (WP_at (M := (ML_law g)) rfl dL_law_483 (Or.inr rfl)) rfl
theorem eL_law_484 : WP (ML_law g) Q (484, [l0, l1, l2, l3, some (.int a), l5, l6], st, w, k, n) = WP (ML_law g) Q (486, [l0, l1, l2, l3, some (.int a), l5, l6], .int a :: st, w, k, n) := Eq.trans (WP_at (M := (ML_law g)) rfl dL_law_484 (Or.inr rfl)) rfl
theorem eL_law_486 : WP (ML_law g) Q (486, [l0, l1, l2, l3, l4, l5, l6], st, w, k, n) = WP (ML_law g) Q (487, [l0, l1, l2, l3, l4, l5, l6], .int 2 :: st, w, k, n) := iconst_e rfl dL_law_486 (by decide)
theorem eL_law_487 : WP (ML_law g) Q (487, [l0, l1, l2, l3, l4, l5, l6], .int b :: .int a :: st, w, k, n) = WP (ML_law g) Q (488, [l0, l1, l2, l3, l4, l5, l6], .int (a + b) :: st, w, k, n) := Eq.trans (WP_at (M := (ML_law g)) rfl dL_law_487 (Or.inr rfl)) rfl
theorem eL_law_488 : WP (ML_law g) Q (488, [l0, l1, l2, l3, l4, l5, l6], .int a :: .ref p :: st, w, k, n) = gi (rd g w p) 1 fun N f => vp_in a N ∧ WP (ML_law g) Q (489, [l0, l1, l2, l3, l4, l5, l6], .int (f a.toNatClampNeg) :: st, w, k, n) := Eq.trans (WP_at (M := (ML_law g)) rfl dL_law_488 (Or.inr rfl)) rfl
theorem eL_law_489 {z0 : Int32} {z1 : Int32} : WP (ML_law g) Q (489, [l0, l1, l2, l3, l4, l5, l6], .int z1 :: .int z0 :: .ref p :: st, w, k, n) = (go (rd g w p) 7 (fun _ => True) ∧ wt st ≤ 8 ∧ k + 0 ≤ 58408 ∧ n + 0 ≤ 1451408 ∧ WP (MX3_copy g) (kx (fun v w' => WP (ML_law g) Q (492, [l0, l1, l2, l3, l4, l5, l6], v.toList ++ st, w', k + 0, n + 0)) (fun E w' => Q (.inr E) w')) (0, [some (.ref p), some (.int z0), some (.int z1)], [], w, 0, 0)) := csV (M := (ML_law g)) (mc := (fun _ _ => 0)) (ms := (fun _ _ => 0)) (As := [.int z0, .int z1]) (rest := st) (MX3_copy g) rfl rfl dL_law_489 (by exact fun h => nomatch (show (none : Option Nat) = some 11 from h)) (by exact fun h => nomatch (show (none : Option Nat) = some 15 from h)) rfl rfl (by decide) (Nat.le_of_ble_eq_true rfl) (Nat.le_of_ble_eq_true rfl) rfl
theorem eL_law_492 : WP (ML_law g) Q (492, [l0, l1, l2, l3, l4, l5, l6], .int a :: st, w, k, n) = WP (ML_law g) Q (494, [l0, l1, l2, l3, l4, nl l5, some (.int a)], st, w, k, n) := by rw [WP_at (M := (ML_law g)) rfl dL_law_492 (Or.inr rfl)]; exact and_t (Nat.le_of_ble_eq_true rfl)
theorem eL_law_494 : WP (ML_law g) Q (494, [l0, l1, l2, l3, l4, l5, l6], st, w, k, n) = WP (ML_law g) Q (2246, [l0, l1, l2, l3, l4, l5, l6], st, w, k, n) := goto_e rfl dL_law_494 (by decide)
theorem eL_law_497 : WP (ML_law g) Q (497, [l0, some (.ref p), l2, l3, l4, l5, l6], st, w, k, n) = WP (ML_law g) Q (498, [l0, some (.ref p), l2, l3, l4, l5, l6], .ref p :: st, w, k, n) := Eq.trans (WP_at (M := (ML_law g)) rfl dL_law_497 (Or.inr rfl)) rfl
theorem eL_law_497N : WP (ML_law g) Q (497, [l0, some .null, l2, l3, l4, l5, l6], st, w, k, n) = WP (ML_law g) Q (498, [l0, some .null, l2, l3, l4, l5, l6], .null :: st, w, k, n) := Eq.trans (WP_at (M := (ML_law g)) rfl dL_law_497 (Or.inr rfl)) rfl
theorem eL_law_498 : WP (ML_law g) Q (498, [some (.ref p), l1, l2, l3, l4, l5, l6], st, w, k, n) = WP (ML_law g) Q (499, [some (.ref p), l1, l2, l3, l4, l5, l6], .ref p :: st, w, k, n) := Eq.trans (WP_at (M := (ML_law g)) rfl dL_law_498 (Or.inr rfl)) rfl
theorem eL_law_498N : WP (ML_law g) Q (498, [some .null, l1, l2, l3, l4, l5, l6], st, w, k, n) = WP (ML_law g) Q (499, [some .null, l1, l2, l3, l4, l5, l6], .null :: st, w, k, n) := Eq.trans (WP_at (M := (ML_law g)) rfl dL_law_498 (Or.inr rfl)) rfl
theorem eL_law_499 : WP (ML_law g) Q (499, [l0, l1, l2, l3, some (.int a), l5, l6], st, w, k, n) = WP (ML_law g) Q (501, [l0, l1, l2, l3, some (.int a), l5, l6], .int a :: st, w, k, n) := Eq.trans (WP_at (M := (ML_law g)) rfl dL_law_499 (Or.inr rfl)) rfl
theorem eL_law_501 : WP (ML_law g) Q (501, [l0, l1, l2, l3, l4, l5, l6], st, w, k, n) = WP (ML_law g) Q (502, [l0, l1, l2, l3, l4, l5, l6], .int 1 :: st, w, k, n) := iconst_e rfl dL_law_501 (by decide)
theorem eL_law_502 : WP (ML_law g) Q (502, [l0, l1, l2, l3, l4, l5, l6], .int b :: .int a :: st, w, k, n) = WP (ML_law g) Q (503, [l0, l1, l2, l3, l4, l5, l6], .int (a + b) :: st, w, k, n) := Eq.trans (WP_at (M := (ML_law g)) rfl dL_law_502 (Or.inr rfl)) rfl
theorem eL_law_503 : WP (ML_law g) Q (503, [l0, l1, l2, l3, l4, l5, l6], .int a :: .ref p :: st, w, k, n) = gi (rd g w p) 1 fun N f => vp_in a N ∧ WP (ML_law g) Q (504, [l0, l1, l2, l3, l4, l5, l6], .int (f a.toNatClampNeg) :: st, w, k, n) := Eq.trans (WP_at (M := (ML_law g)) rfl dL_law_503 (Or.inr rfl)) rfl
theorem eL_law_504 : WP (ML_law g) Q (504, [some (.ref p), l1, l2, l3, l4, l5, l6], st, w, k, n) = WP (ML_law g) Q (505, [some (.ref p), l1, l2, l3, l4, l5, l6], .ref p :: st, w, k, n) := Eq.trans (WP_at (M := (ML_law g)) rfl dL_law_504 (Or.inr rfl)) rfl
theorem eL_law_504N : WP (ML_law g) Q (504, [some .null, l1, l2, l3, l4, l5, l6], st, w, k, n) = WP (ML_law g) Q (505, [some .null, l1, l2, l3, l4, l5, l6], .null :: st, w, k, n) := Eq.trans (WP_at (M := (ML_law g)) rfl dL_law_504 (Or.inr rfl)) rfl
theorem eL_law_505 : WP (ML_law g) Q (505, [l0, l1, l2, l3, some (.int a), l5, l6], st, w, k, n) = WP (ML_law g) Q (507, [l0, l1, l2, l3, some (.int a), l5, l6], .int a :: st, w, k, n) := Eq.trans (WP_at (M := (ML_law g)) rfl dL_law_505 (Or.inr rfl)) rfl
theorem eL_law_507 : WP (ML_law g) Q (507, [l0, l1, l2, l3, l4, l5, l6], st, w, k, n) = WP (ML_law g) Q (508, [l0, l1, l2, l3, l4, l5, l6], .int 2 :: st, w, k, n) := iconst_e rfl dL_law_507 (by decide)
theorem eL_law_508 : WP (ML_law g) Q (508, [l0, l1, l2, l3, l4, l5, l6], .int b :: .int a :: st, w, k, n) = WP (ML_law g) Q (509, [l0, l1, l2, l3, l4, l5, l6], .int (a + b) :: st, w, k, n) := Eq.trans (WP_at (M := (ML_law g)) rfl dL_law_508 (Or.inr rfl)) rfl
theorem eL_law_509 : WP (ML_law g) Q (509, [l0, l1, l2, l3, l4, l5, l6], .int a :: .ref p :: st, w, k, n) = gi (rd g w p) 1 fun N f => vp_in a N ∧ WP (ML_law g) Q (510, [l0, l1, l2, l3, l4, l5, l6], .int (f a.toNatClampNeg) :: st, w, k, n) := Eq.trans (WP_at (M := (ML_law g)) rfl dL_law_509 (Or.inr rfl)) rfl
theorem eL_law_510 : WP (ML_law g) Q (510, [l0, l1, l2, l3, l4, l5, l6], .int a :: st, w, k, n) = if a = 0 then WP (ML_law g) Q (517, [l0, l1, l2, l3, l4, l5, l6], st, w, k, n) else WP (ML_law g) Q (513, [l0, l1, l2, l3, l4, l5, l6], st, w, k, n) := ifc_e (a = 0) rfl dL_law_510 rfl (by decide)
theorem eL_law_513 : WP (ML_law g) Q (513, [l0, l1, l2, l3, l4, l5, l6], st, w, k, n) = WP (ML_law g) Q (514, [l0, l1, l2, l3, l4, l5, l6], .int 1 :: st, w, k, n) := iconst_e rfl dL_law_513 (by decide)
theorem eL_law_514 : WP (ML_law g) Q (514, [l0, l1, l2, l3, l4, l5, l6], st, w, k, n) = WP (ML_law g) Q (518, [l0, l1, l2, l3, l4, l5, l6], st, w, k, n) := goto_e rfl dL_law_514 (by decide)
theorem eL_law_517 : WP (ML_law g) Q (517, [l0, l1, l2, l3, l4, l5, l6], st, w, k, n) = WP (ML_law g) Q (518, [l0, l1, l2, l3, l4, l5, l6], .int 0 :: st, w, k, n) := iconst_e rfl dL_law_517 (by decide)
theorem eL_law_518 : WP (ML_law g) Q (518, [l0, l1, l2, some (.ref p), l4, l5, l6], st, w, k, n) = WP (ML_law g) Q (519, [l0, l1, l2, some (.ref p), l4, l5, l6], .ref p :: st, w, k, n) := Eq.trans (WP_at (M := (ML_law g)) rfl dL_law_518 (Or.inr rfl)) rfl
theorem eL_law_518N : WP (ML_law g) Q (518, [l0, l1, l2, some .null, l4, l5, l6], st, w, k, n) = WP (ML_law g) Q (519, [l0, l1, l2, some .null, l4, l5, l6], .null :: st, w, k, n) := Eq.trans (WP_at (M := (ML_law g)) rfl dL_law_518 (Or.inr rfl)) rfl
theorem eL_law_519RR {z0 : Nat} {z1 : Int32} {z2 : Int32} {z3 : Nat} : WP (ML_law g) Q (519, [l0, l1, l2, l3, l4, l5, l6], .ref z3 :: .int z2 :: .int z1 :: .ref z0 :: st, w, k, n) = (wt st ≤ 8 ∧ k + 1 ≤ 58408 ∧ n + 6 ≤ 1451408 ∧ WP (ML_ofNumber g) (kx (fun v w' => WP (ML_law g) Q (522, [l0, l1, l2, l3, l4, l5, l6], v.toList ++ st, w', k + 1, n + 6)) (fun E w' => Q (.inr E) w')) (0, [some (.ref z0), some (.int z1), some (.int z2), some (.ref z3), none], [], w, 0, 0)) := csS (M := (ML_law g)) (mc := (fun _ _ => 1)) (ms := (fun _ _ => 6)) (As := [.ref z0, .int z1, .int z2, .ref z3]) (rest := st) (ML_ofNumber g) rfl rfl dL_law_519 (Nat.ne_of_beq_eq_false rfl) (by exact fun h => nomatch (show (none : Option Nat) = some 12 from h)) (by exact fun h => nomatch (show (none : Option Nat) = some 13 from h)) (by exact fun h => nomatch (show (none : Option Nat) = some 14 from h)) rfl rfl (by decide) (Nat.le_of_ble_eq_true rfl) (Nat.le_of_ble_eq_true rfl) rfl
theorem eL_law_519NR {z1 : Int32} {z2 : Int32} {z3 : Nat} : WP (ML_law g) Q (519, [l0, l1, l2, l3, l4, l5, l6], .ref z3 :: .int z2 :: .int z1 :: .null :: st, w, k, n) = (wt st ≤ 8 ∧ k + 1 ≤ 58408 ∧ n + 6 ≤ 1451408 ∧ WP (ML_ofNumber g) (kx (fun v w' => WP (ML_law g) Q (522, [l0, l1, l2, l3, l4, l5, l6], v.toList ++ st, w', k + 1, n + 6)) (fun E w' => Q (.inr E) w')) (0, [some .null, some (.int z1), some (.int z2), some (.ref z3), none], [], w, 0, 0)) := csS (M := (ML_law g)) (mc := (fun _ _ => 1)) (ms := (fun _ _ => 6)) (As := [.null, .int z1, .int z2, .ref z3]) (rest := st) (ML_ofNumber g) rfl rfl dL_law_519 (Nat.ne_of_beq_eq_false rfl) (by exact fun h => nomatch (show (none : Option Nat) = some 12 from h)) (by exact fun h => nomatch (show (none : Option Nat) = some 13 from h)) (by exact fun h => nomatch (show (none : Option Nat) = some 14 from h)) rfl rfl (by decide) (Nat.le_of_ble_eq_true rfl) (Nat.le_of_ble_eq_true rfl) rfl
theorem eL_law_519RN {z0 : Nat} {z1 : Int32} {z2 : Int32} : WP (ML_law g) Q (519, [l0, l1, l2, l3, l4, l5, l6], .null :: .int z2 :: .int z1 :: .ref z0 :: st, w, k, n) = (wt st ≤ 8 ∧ k + 1 ≤ 58408 ∧ n + 6 ≤ 1451408 ∧ WP (ML_ofNumber g) (kx (fun v w' => WP (ML_law g) Q (522, [l0, l1, l2, l3, l4, l5, l6], v.toList ++ st, w', k + 1, n + 6)) (fun E w' => Q (.inr E) w')) (0, [some (.ref z0), some (.int z1), some (.int z2), some .null, none], [], w, 0, 0)) := csS (M := (ML_law g)) (mc := (fun _ _ => 1)) (ms := (fun _ _ => 6)) (As := [.ref z0, .int z1, .int z2, .null]) (rest := st) (ML_ofNumber g) rfl rfl dL_law_519 (Nat.ne_of_beq_eq_false rfl) (by exact fun h => nomatch (show (none : Option Nat) = some 12 from h)) (by exact fun h => nomatch (show (none : Option Nat) = some 13 from h)) (by exact fun h => nomatch (show (none : Option Nat) = some 14 from h)) rfl rfl (by decide) (Nat.le_of_ble_eq_true rfl) (Nat.le_of_ble_eq_true rfl) rfl
end
end
