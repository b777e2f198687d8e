/-! RangecardLaw.isSameAs(LRangecard;IILRangecardLaw$Out;)I -/
theorem dL_isSameAs_0 : decode cL_isSameAs 0 = .ok (.aload_n 3, 1) := by decide +kernel
theorem dL_isSameAs_1 : decode cL_isSameAs 1 = .ok (.aload_n 0, 1) := by decide +kernel
theorem dL_isSameAs_2 : decode cL_isSameAs 2 = .ok (.iload_n 1, 1) := by decide +kernel
theorem dL_isSameAs_3 : decode cL_isSameAs 3 = .ok (.iload_n 2, 1) := by decide +kernel
theorem dL_isSameAs_4 : decode cL_isSameAs 4 = .ok (.invokevirtual 140, 3) := by decide +kernel
theorem dL_isSameAs_7 : decode cL_isSameAs 7 = .ok (.ifCond .eq 7, 3) := by decide +kernel
theorem dL_isSameAs_10 : decode cL_isSameAs 10 = .ok (.lconst 1, 1) := by decide +kernel
theorem dL_isSameAs_11 : decode cL_isSameAs 11 = .ok (.goto 4, 3) := by decide +kernel
theorem dL_isSameAs_14 : decode cL_isSameAs 14 = .ok (.lconst 0, 1) := by decide +kernel
theorem dL_isSameAs_15 : decode cL_isSameAs 15 = .ok (.putfield 13, 3) := by decide +kernel
theorem dL_isSameAs_18 : decode cL_isSameAs 18 = .ok (.goto 15, 3) := by decide +kernel
theorem dL_isSameAs_21 : decode cL_isSameAs 21 = .ok (.astore 4, 2) := by decide +kernel
theorem dL_isSameAs_23 : decode cL_isSameAs 23 = .ok (.iconst 1, 1) := by decide +kernel
theorem dL_isSameAs_24 : decode cL_isSameAs 24 = .ok (.ireturn, 1) := by decide +kernel
theorem dL_isSameAs_25 : decode cL_isSameAs 25 = .ok (.astore 4, 2) := by decide +kernel
theorem dL_isSameAs_27 : decode cL_isSameAs 27 = .ok (.iconst 2, 1) := by decide +kernel
theorem dL_isSameAs_28 : decode cL_isSameAs 28 = .ok (.ireturn, 1) := by decide +kernel
theorem dL_isSameAs_29 : decode cL_isSameAs 29 = .ok (.astore 4, 2) := by decide +kernel
theorem dL_isSameAs_31 : decode cL_isSameAs 31 = .ok (.iconst 3, 1) := by decide +kernel
theorem dL_isSameAs_32 : decode cL_isSameAs 32 = .ok (.ireturn, 1) := by decide +kernel
theorem dL_isSameAs_33 : decode cL_isSameAs 33 = .ok (.iconst 0, 1) := by decide +kernel
theorem dL_isSameAs_34 : decode cL_isSameAs 34 = .ok (.ireturn, 1) := by decide +kernel
def ML_isSameAs (g : RO) : MT := ((RL, cL_isSameAs, 5, 9, 6, 32, false, some .int), [(13, 6, 0)], [], [], [], [], 0, [(140, 2, 3, 5, 8, (fun _ _ => 6), (fun _ _ => 32), yX1_isSameAs, spOf (MX1_isSameAs g))], [], [], 0, [(0, 18, 21, 19), (0, 18, 25, 28), (0, 18, 29, 74)], [(19, "java/lang/IndexOutOfBoundsException"), (28, "java/lang/IllegalArgumentException"), (74, "java/lang/IllegalStateException")], g)
section
variable {g : RO} {Q : Ot → Hw → Prop} {st : List Value} {w : Hw} {k n p q : Nat} {a b : Int32} {x y : Int64} {u v : Value} {l0 l1 l2 l3 l4 : Option Value}
theorem eL_isSameAs_0 : WP (ML_isSameAs g) Q (0, [l0, l1, l2, some (.ref p), l4], st, w, k, n) = WP (ML_isSameAs g) Q (1, [l0, l1, l2, some (.ref p), l4], .ref p :: st, w, k, n) := Eq.trans (WP_at (M := (ML_isSameAs g)) rfl dL_isSameAs_0 (Or.inr rfl)) rfl
theorem eL_isSameAs_0N : WP (ML_isSameAs g) Q (0, [l0, l1, l2, some .null, l4], st, w, k, n) = WP (ML_isSameAs g) Q (1, [l0, l1, l2, some .null, l4], .null :: st, w, k, n) := Eq.trans (WP_at (M := (ML_isSameAs g)) rfl dL_isSameAs_0 (Or.inr rfl)) rfl
theorem eL_isSameAs_1 : WP (ML_isSameAs g) Q (1, [some (.ref p), l1, l2, l3, l4], st, w, k, n) = WP (ML_isSameAs g) Q (2, [some (.ref p), l1, l2, l3, l4], .ref p :: st, w, k, n) := Eq.trans (WP_at (M := (ML_isSameAs g)) rfl dL_isSameAs_1 (Or.inr rfl)) rfl
theorem eL_isSameAs_1N : WP (ML_isSameAs g) Q (1, [some .null, l1, l2, l3, l4], st, w, k, n) = WP (ML_isSameAs g) Q (2, [some .null, l1, l2, l3, l4], .null :: st, w, k, n) := Eq.trans (WP_at (M := (ML_isSameAs g)) rfl dL_isSameAs_1 (Or.inr rfl)) rfl
theorem eL_isSameAs_2 : WP (ML_isSameAs g) Q (2, [l0, some (.int a), l2, l3, l4], st, w, k, n) = WP (ML_isSameAs g) Q (3, [l0, some (.int a), l2, l3, l4], .int a :: st, w, k, n) := Eq.trans (WP_at (M := (ML_isSameAs g)) rfl dL_isSameAs_2 (Or.inr rfl)) rfl
theorem eL_isSameAs_3 : WP (ML_isSameAs g) Q (3, [l0, l1, some (.int a), l3, l4], st, w, k, n) = WP (ML_isSameAs g) Q (4, [l0, l1, some (.int a), l3, l4], .int a :: st, w, k, n) := Eq.trans (WP_at (M := (ML_isSameAs g)) rfl dL_isSameAs_3 (Or.inr rfl)) rfl
theorem eL_isSameAs_4 {z0 : Int32} {z1 : Int32} : WP (ML_isSameAs g) Q (4, [l0, l1, l2, l3, l4], .int z1 :: .int z0 :: .ref p :: st, w, k, n) = (go (rd g w p) 5 (fun _ => True) ∧ wt st ≤ 8 ∧ k + 6 ≤ 6 ∧ n + 32 ≤ 32 ∧ WP (MX1_isSameAs g) (kx (fun v w' => WP (ML_isSameAs g) Q (7, [l0, l1, l2, l3, l4], v.toList ++ st, w', k + 6, n + 32)) (fun E w' => hgo (ML_isSameAs g) Q (WP (ML_isSameAs g) Q) 4 [l0, l1, l2, l3, l4] E w' (k + 6) (n + 32))) (0, [some (.ref p), some (.int z0), some (.int z1), none], [], w, 0, 0)) := csVH (M := (ML_isSameAs g)) (mc := (fun _ _ => 6)) (ms := (fun _ _ => 32)) (As := [.int z0, .int z1]) (rest := st) (MX1_isSameAs g) rfl dL_isSameAs_4 (by exact fun h => nomatch (show (none : Option Nat) = some 11 from h)) (by exact fun h => nomatch (show (none : Option Nat) = some 15 from h)) rfl rfl (by decide) (Nat.le_of_ble_eq_true rfl) (Nat.le_of_ble_eq_true rfl) rfl
theorem eL_isSameAs_7 : WP (ML_isSameAs g) Q (7, [l0, l1, l2, l3, l4], .int a :: st, w, k, n) = if a = 0 then WP (ML_isSameAs g) Q (14, [l0, l1, l2, l3, l4], st, w, k, n) else WP (ML_isSameAs g) Q (10, [l0, l1, l2, l3, l4], st, w, k, n) := ifc_e (a = 0) rfl dL_isSameAs_7 rfl (by decide)
theorem eL_isSameAs_10 : WP (ML_isSameAs g) Q (10, [l0, l1, l2, l3, l4], st, w, k, n) = WP (ML_isSameAs g) Q (11, [l0, l1, l2, l3, l4], .long 1 :: st, w, k, n) := lconst_e rfl dL_isSameAs_10 (by decide)
theorem eL_isSameAs_11 : WP (ML_isSameAs g) Q (11, [l0, l1, l2, l3, l4], st, w, k, n) = WP (ML_isSameAs g) Q (15, [l0, l1, l2, l3, l4], st, w, k, n) := goto_e rfl dL_isSameAs_11 (by decide)
theorem eL_isSameAs_14 : WP (ML_isSameAs g) Q (14, [l0, l1, l2, l3, l4], st, w, k, n) = WP (ML_isSameAs g) Q (15, [l0, l1, l2, l3, l4], .long 0 :: st, w, k, n) := lconst_e rfl dL_isSameAs_14 (by decide)
theorem eL_isSameAs_15 : WP (ML_isSameAs g) Q (15, [l0, l1, l2, l3, l4], v :: .ref p :: st, w, k, n) = go (w p) 6 fun fs => 0 < fs.length ∧ (narrow (.long) v = v ∧ fits (.long) v = true) ∧ WP (ML_isSameAs g) Q (18, [l0, l1, l2, l3, l4], st, upw w p (.inr (6, fs.set 0 v)), k, n) := put_e (q := (RX2, TX2, 2)) rfl dL_isSameAs_15 rfl rfl (tyX2_ok 0 (by decide)) (Or.inl rfl)
theorem eL_isSameAs_18 : WP (ML_isSameAs g) Q (18, [l0, l1, l2, l3, l4], st, w, k, n) = WP (ML_isSameAs g) Q (33, [l0, l1, l2, l3, l4], st, w, k, n) := goto_e rfl dL_isSameAs_18 (by decide)
theorem eL_isSameAs_21 : WP (ML_isSameAs g) Q (21, [l0, l1, l2, l3, l4], .ref p :: st, w, k, n) = WP (ML_isSameAs g) Q (23, [l0, l1, l2, nl l3, some (.ref p)], st, w, k, n) := by rw [WP_at (M := (ML_isSameAs g)) rfl dL_isSameAs_21 (Or.inr rfl)]; exact and_t (Nat.le_of_ble_eq_true rfl)
theorem eL_isSameAs_21N : WP (ML_isSameAs g) Q (21, [l0, l1, l2, l3, l4], .null :: st, w, k, n) = WP (ML_isSameAs g) Q (23, [l0, l1, l2, nl l3, some (.null)], st, w, k, n) := by rw [WP_at (M := (ML_isSameAs g)) rfl dL_isSameAs_21 (Or.inr rfl)]; exact and_t (Nat.le_of_ble_eq_true rfl)
theorem eL_isSameAs_23 : WP (ML_isSameAs g) Q (23, [l0, l1, l2, l3, l4], st, w, k, n) = WP (ML_isSameAs g) Q (24, [l0, l1, l2, l3, l4], .int 1 :: st, w, k, n) := iconst_e rfl dL_isSameAs_23 (by decide)
theorem eL_isSameAs_24 : WP (ML_isSameAs g) Q (24, [l0, l1, l2, l3, l4], [.int a], w, k, n) = (k ≤ 6 ∧ n ≤ 32 ∧ Q (.inl (some (.int a))) w) := iretI_e rfl dL_isSameAs_24 rfl
theorem eL_isSameAs_25 : WP (ML_isSameAs g) Q (25, [l0, l1, l2, l3, l4], .ref p :: st, w, k, n) = WP (ML_isSameAs g) Q (27, [l0, l1, l2, nl l3, some (.ref p)], st, w, k, n) := by rw [WP_at (M := (ML_isSameAs g)) rfl dL_isSameAs_25 (Or.inr rfl)]; exact and_t (Nat.le_of_ble_eq_true rfl)
theorem eL_isSameAs_25N : WP (ML_isSameAs g) Q (25, [l0, l1, l2, l3, l4], .null :: st, w, k, n) = WP (ML_isSameAs g) Q (27, [l0, l1, l2, nl l3, some (.null)], st, w, k, n) := by rw [WP_at (M := (ML_isSameAs g)) rfl dL_isSameAs_25 (Or.inr rfl)]; exact and_t (Nat.le_of_ble_eq_true rfl)
theorem eL_isSameAs_27 : WP (ML_isSameAs g) Q (27, [l0, l1, l2, l3, l4], st, w, k, n) = WP (ML_isSameAs g) Q (28, [l0, l1, l2, l3, l4], .int 2 :: st, w, k, n) := iconst_e rfl dL_isSameAs_27 (by decide)
theorem eL_isSameAs_28 : WP (ML_isSameAs g) Q (28, [l0, l1, l2, l3, l4], [.int a], w, k, n) = (k ≤ 6 ∧ n ≤ 32 ∧ Q (.inl (some (.int a))) w) := iretI_e rfl dL_isSameAs_28 rfl
theorem eL_isSameAs_29 : WP (ML_isSameAs g) Q (29, [l0, l1, l2, l3, l4], .ref p :: st, w, k, n) = WP (ML_isSameAs g) Q (31, [l0, l1, l2, nl l3, some (.ref p)], st, w, k, n) := by rw [WP_at (M := (ML_isSameAs g)) rfl dL_isSameAs_29 (Or.inr rfl)]; exact and_t (Nat.le_of_ble_eq_true rfl)
theorem eL_isSameAs_29N : WP (ML_isSameAs g) Q (29, [l0, l1, l2, l3, l4], .null :: st, w, k, n) = WP (ML_isSameAs g) Q (31, [l0, l1, l2, nl l3, some (.null)], st, w, k, n) := by rw [WP_at (M := (ML_isSameAs g)) rfl dL_isSameAs_29 (Or.inr rfl)]; exact and_t (Nat.le_of_ble_eq_true rfl)
theorem eL_isSameAs_31 : WP (ML_isSameAs g) Q (31, [l0, l1, l2, l3, l4], st, w, k, n) = WP (ML_isSameAs g) Q (32, [l0, l1, l2, l3, l4], .int 3 :: st, w, k, n) := iconst_e rfl dL_isSameAs_31 (by decide)
theorem eL_isSameAs_32 : WP (ML_isSameAs g) Q (32, [l0, l1, l2, l3, l4], [.int a], w, k, n) = (k ≤ 6 ∧ n ≤ 32 ∧ Q (.inl (some (.int a))) w) := iretI_e rfl dL_isSameAs_32 rfl
theorem eL_isSameAs_33 : WP (ML_isSameAs g) Q (33, [l0, l1, l2, l3, l4], st, w, k, n) = WP (ML_isSameAs g) Q (34, [l0, l1, l2, l3, l4], .int 0 :: st, w, k, n) := iconst_e rfl dL_isSameAs_33 (by decide)
theorem eL_isSameAs_34 : WP (ML_isSameAs g) Q (34, [l0, l1, l2, l3, l4], [.int a], w, k, n) = (k ≤ 6 ∧ n ≤ 32 ∧ Q (.inl (some (.int a))) w) := iretI_e rfl dL_isSameAs_34 rfl
end
theorem wk_1048 : (.code yX1_isSameAs cX1_isSameAs 4 (some .boolean) : Jvm.Cond) ∈ WS := WS_at 1048 (by decide +kernel) rfl
theorem wk_1045 : (.methodLink RL 140 yX1_isSameAs : Jvm.Cond) ∈ WS := WS_at 1045 (by decide +kernel) rfl
theorem wk_1046 : (.instanceMethod yX1_isSameAs : Jvm.Cond) ∈ WS := WS_at 1046 (by decide +kernel) rfl
theorem wk_1047 : (.selects RX1 yX1_isSameAs yX1_isSameAs : Jvm.Cond) ∈ WS := WS_at 1047 (by decide +kernel) rfl
theorem vML_isSameAs {l : Launch} (hl : l.stackTraces = false) (G : GT) : vM l G (ML_isSameAs (gg G)) := ⟨fun i c j h => lookup_all (l := (ML_isSameAs (gg G)).fld) (P := fun i e => vFld RL i e.1 e.2) (all_c (vF_RL_13) (all_n)) i (c, j) h, fun i c fs h => lookup_all (l := (ML_isSameAs (gg G)).new) (P := fun i e => vNew RL i e.1 e.2) (all_n) i (c, fs) h, lookup_all (l := (ML_isSameAs (gg G)).anew) (P := fun i e => vANew RL i e) (all_n), lookup_all (l := (ML_isSameAs (gg G)).lng) (P := fun i e => Jvm.Cond.constantLong RL i e ∈ WS) (all_n), lookup_all (l := (ML_isSameAs (gg G)).thr) (P := fun i e => vThr RL cL_isSameAs i e) (all_n), fun h => absurd rfl h, lookup_all (l := (ML_isSameAs (gg G)).cal) (P := fun i e => vCal l G RL i e) (all_c (⟨cX1_isSameAs, 4, some .boolean, fun y hy => by subst hy; exact ⟨by decide, ⟨_, wk_1048, okX1_isSameAs hl, Or.inl ⟨Nat.ne_of_beq_eq_false rfl, rfl⟩⟩, wk_59, ⟨(by decide : yX1_isSameAs.cls ≠ "java/lang/invoke/MethodHandle"), (by decide : yX1_isSameAs.cls ≠ "java/lang/invoke/VarHandle")⟩, ⟨(by decide +kernel : (parseMethodDescriptor yX1_isSameAs.desc).map (fun d => d.parameters.length + 1) = some 3), wk_1045, wk_1046, wk_1047, (RX1, TX1, 7), rfl, rfl⟩⟩⟩) (all_n)), lookup_all (l := (ML_isSameAs (gg G)).stt) (P := fun i e => vStt G RL i e) (all_n), lookup_all (l := (ML_isSameAs (gg G)).cst) (P := fun i e => vCst RL i e) (all_n), fun h => absurd rfl h, rfl, all_c (⟨"java/lang/IndexOutOfBoundsException", by decide, rfl, by decide, wk_348⟩) (all_c (⟨"java/lang/IllegalArgumentException", by decide, rfl, by decide, wk_435⟩) (all_c (⟨"java/lang/IllegalStateException", by decide, rfl, by decide, wk_869⟩) (all_n)))⟩
theorem okL_isSameAs {l : Launch} (hl : l.stackTraces = false) {G : GT} : ∀ (args : List Value) (w : Hw) (S : Ot → Hw → Prop), spOf (ML_isSameAs (gg G)) args w S → CX l G yL_isSameAs (.codeWith yL_isSameAs cL_isSameAs 5 (some .int) [(0, 18, 21, 19), (0, 18, 25, 28), (0, 18, 29, 74)]) 9 6 32 args w S := CX_spH (M := ML_isSameAs (gg G)) (y := yL_isSameAs) hl (by decide) rfl (vML_isSameAs hl G) (fun h => by cases h)
/-! RangecardLaw.likes(LRangecard;ILRangecardLaw$Out;)I -/
theorem dL_likes_0 : decode cL_likes 0 = .ok (.aload_n 2, 1) := by decide +kernel
theorem dL_likes_1 : decode cL_likes 1 = .ok (.aload_n 0, 1) := by decide +kernel
theorem dL_likes_2 : decode cL_likes 2 = .ok (.iload_n 1, 1) := by decide +kernel
theorem dL_likes_3 : decode cL_likes 3 = .ok (.invokevirtual 143, 3) := by decide +kernel
theorem dL_likes_6 : decode cL_likes 6 = .ok (.i2l, 1) := by decide +kernel
theorem dL_likes_7 : decode cL_likes 7 = .ok (.putfield 13, 3) := by decide +kernel
theorem dL_likes_10 : decode cL_likes 10 = .ok (.goto 9, 3) := by decide +kernel
theorem dL_likes_13 : decode cL_likes 13 = .ok (.astore_n 3, 1) := by decide +kernel
theorem dL_likes_14 : decode cL_likes 14 = .ok (.iconst 1, 1) := by decide +kernel
theorem dL_likes_15 : decode cL_likes 15 = .ok (.ireturn, 1) := by decide +kernel
theorem dL_likes_16 : decode cL_likes 16 = .ok (.astore_n 3, 1) := by decide +kernel
theorem dL_likes_17 : decode cL_likes 17 = .ok (.iconst 2, 1) := by decide +kernel
theorem dL_likes_18 : decode cL_likes 18 = .ok (.ireturn, 1) := by decide +kernel
theorem dL_likes_19 : decode cL_likes 19 = .ok (.iconst 0, 1) := by decide +kernel
theorem dL_likes_20 : decode cL_likes 20 = .ok (.ireturn, 1) := by decide +kernel
def ML_likes (g : RO) : MT := ((RL, cL_likes, 4, 9, 2, 12, false, some .int), [(13, 6, 0)], [], [], [], [], 0, [(143, 2, 2, 5, 8, (fun _ _ => 2), (fun _ _ => 12), yX1_likes, spOf (MX1_likes g))], [], [], 0, [(0, 10, 13, 19), (0, 10, 16, 74)], [(19, "java/lang/IndexOutOfBoundsException"), (74, "java/lang/IllegalStateException")], g)
section
variable {g : RO} {Q : Ot → Hw → Prop} {st : List Value} {w : Hw} {k n p q : Nat} {a b : Int32} {x y : Int64} {u v : Value} {l0 l1 l2 l3 : Option Value}
theorem eL_likes_0 : WP (ML_likes g) Q (0, [l0, l1, some (.ref p), l3], st, w, k, n) = WP (ML_likes g) Q (1, [l0, l1, some (.ref p), l3], .ref p :: st, w, k, n) := Eq.trans (WP_at (M := (ML_likes g)) rfl dL_likes_0 (Or.inr rfl)) rfl
theorem eL_likes_0N : WP (ML_likes g) Q (0, [l0, l1, some .null, l3], st, w, k, n) = WP (ML_likes g) Q (1, [l0, l1, some .null, l3], .null :: st, w, k, n) := Eq.trans (WP_at (M := (ML_likes g)) rfl dL_likes_0 (Or.inr rfl)) rfl
theorem eL_likes_1 : WP (ML_likes g) Q (1, [some (.ref p), l1, l2, l3], st, w, k, n) = WP (ML_likes g) Q (2, [some (.ref p), l1, l2, l3], .ref p :: st, w, k, n) := Eq.trans (WP_at (M := (ML_likes g)) rfl dL_likes_1 (Or.inr rfl)) rfl
theorem eL_likes_1N : WP (ML_likes g) Q (1, [some .null, l1, l2, l3], st, w, k, n) = WP (ML_likes g) Q (2, [some .null, l1, l2, l3], .null :: st, w, k, n) := Eq.trans (WP_at (M := (ML_likes g)) rfl dL_likes_1 (Or.inr rfl)) rfl
theorem eL_likes_2 : WP (ML_likes g) Q (2, [l0, some (.int a), l2, l3], st, w, k, n) = WP (ML_likes g) Q (3, [l0, some (.int a), l2, l3], .int a :: st, w, k, n) := Eq.trans (WP_at (M := (ML_likes g)) rfl dL_likes_2 (Or.inr rfl)) rfl
theorem eL_likes_3 {z0 : Int32} : WP (ML_likes g) Q (3, [l0, l1, l2, l3], .int z0 :: .ref p :: st, w, k, n) = (go (rd g w p) 5 (fun _ => True) ∧ wt st ≤ 8 ∧ k + 2 ≤ 2 ∧ n + 12 ≤ 12 ∧ WP (MX1_likes g) (kx (fun v w' => WP (ML_likes g) Q (6, [l0, l1, l2, l3], v.toList ++ st, w', k + 2, n + 12)) (fun E w' => hgo (ML_likes g) Q (WP (ML_likes g) Q) 3 [l0, l1, l2, l3] E w' (k + 2) (n + 12))) (0, [some (.ref p), some (.int z0)], [], w, 0, 0)) := csVH (M := (ML_likes g)) (mc := (fun _ _ => 2)) (ms := (fun _ _ => 12)) (As := [.int z0]) (rest := st) (MX1_likes g) rfl dL_likes_3 (by exact fun h => nomatch (show (none : Option Nat) = some 11 from h)) (by exact fun h => nomatch (show (none : Option Nat) = some 15 from h)) rfl rfl (by decide) (Nat.le_of_ble_eq_true rfl) (Nat.le_of_ble_eq_true rfl) rfl
theorem eL_likes_6 : WP (ML_likes g) Q (6, [l0, l1, l2, l3], .int a :: st, w, k, n) = WP (ML_likes g) Q (7, [l0, l1, l2, l3], .long a.toInt64 :: st, w, k, n) := Eq.trans (WP_at (M := (ML_likes g)) rfl dL_likes_6 (Or.inr rfl)) rfl
theorem eL_likes_7 : WP (ML_likes g) Q (7, [l0, l1, l2, l3], v :: .ref p :: st, w, k, n) = go (w p) 6 fun fs => 0 < fs.length ∧ (narrow (.long) v = v ∧ fits (.long) v = true) ∧ WP (ML_likes g) Q (10, [l0, l1, l2, l3], st, upw w p (.inr (6, fs.set 0 v)), k, n) := put_e (q := (RX2, TX2, 2)) rfl dL_likes_7 rfl rfl (tyX2_ok 0 (by decide)) (Or.inl rfl)
theorem eL_likes_10 : WP (ML_likes g) Q (10, [l0, l1, l2, l3], st, w, k, n) = WP (ML_likes g) Q (19, [l0, l1, l2, l3], st, w, k, n) := goto_e rfl dL_likes_10 (by decide)
theorem eL_likes_13 : WP (ML_likes g) Q (13, [l0, l1, l2, l3], .ref p :: st, w, k, n) = WP (ML_likes g) Q (14, [l0, l1, nl l2, some (.ref p)], st, w, k, n) := by rw [WP_at (M := (ML_likes g)) rfl dL_likes_13 (Or.inr rfl)]; exact and_t (Nat.le_of_ble_eq_true rfl)
theorem eL_likes_13N : WP (ML_likes g) Q (13, [l0, l1, l2, l3], .null :: st, w, k, n) = WP (ML_likes g) Q (14, [l0, l1, nl l2, some (.null)], st, w, k, n) := by rw [WP_at (M := (ML_likes g)) rfl dL_likes_13 (Or.inr rfl)]; exact and_t (Nat.le_of_ble_eq_true rfl)
theorem eL_likes_14 : WP (ML_likes g) Q (14, [l0, l1, l2, l3], st, w, k, n) = WP (ML_likes g) Q (15, [l0, l1, l2, l3], .int 1 :: st, w, k, n) := iconst_e rfl dL_likes_14 (by decide)
theorem eL_likes_15 : WP (ML_likes g) Q (15, [l0, l1, l2, l3], [.int a], w, k, n) = (k ≤ 2 ∧ n ≤ 12 ∧ Q (.inl (some (.int a))) w) := iretI_e rfl dL_likes_15 rfl
theorem eL_likes_16 : WP (ML_likes g) Q (16, [l0, l1, l2, l3], .ref p :: st, w, k, n) = WP (ML_likes g) Q (17, [l0, l1, nl l2, some (.ref p)], st, w, k, n) := by rw [WP_at (M := (ML_likes g)) rfl dL_likes_16 (Or.inr rfl)]; exact and_t (Nat.le_of_ble_eq_true rfl)
theorem eL_likes_16N : WP (ML_likes g) Q (16, [l0, l1, l2, l3], .null :: st, w, k, n) = WP (ML_likes g) Q (17, [l0, l1, nl l2, some (.null)], st, w, k, n) := by rw [WP_at (M := (ML_likes g)) rfl dL_likes_16 (Or.inr rfl)]; exact and_t (Nat.le_of_ble_eq_true rfl)
theorem eL_likes_17 : WP (ML_likes g) Q (17, [l0, l1, l2, l3], st, w, k, n) = WP (ML_likes g) Q (18, [l0, l1, l2, l3], .int 2 :: st, w, k, n) := iconst_e rfl dL_likes_17 (by decide)
theorem eL_likes_18 : WP (ML_likes g) Q (18, [l0, l1, l2, l3], [.int a], w, k, n) = (k ≤ 2 ∧ n ≤ 12 ∧ Q (.inl (some (.int a))) w) := iretI_e rfl dL_likes_18 rfl
theorem eL_likes_19 : WP (ML_likes g) Q (19, [l0, l1, l2, l3], st, w, k, n) = WP (ML_likes g) Q (20, [l0, l1, l2, l3], .int 0 :: st, w, k, n) := iconst_e rfl dL_likes_19 (by decide)
theorem eL_likes_20 : WP (ML_likes g) Q (20, [l0, l1, l2, l3], [.int a], w, k, n) = (k ≤ 2 ∧ n ≤ 12 ∧ Q (.inl (some (.int a))) w) := iretI_e rfl dL_likes_20 rfl
end
theorem wk_1055 : (.code yX1_likes cX1_likes 2 (some .int) : Jvm.Cond) ∈ WS := WS_at 1055 (by decide +kernel) rfl
theorem wk_1052 : (.methodLink RL 143 yX1_likes : Jvm.Cond) ∈ WS := WS_at 1052 (by decide +kernel) rfl
theorem wk_1053 : (.instanceMethod yX1_likes : Jvm.Cond) ∈ WS := WS_at 1053 (by decide +kernel) rfl
theorem wk_1054 : (.selects RX1 yX1_likes yX1_likes : Jvm.Cond) ∈ WS := WS_at 1054 (by decide +kernel) rfl
theorem vML_likes {l : Launch} (hl : l.stackTraces = false) (G : GT) : vM l G (ML_likes (gg G)) := ⟨fun i c j h => lookup_all (l := (ML_likes (gg G)).fld) (P := fun i e => vFld RL i e.1 e.2) (all_c (vF_RL_13) (all_n)) i (c, j) h, fun i c fs h => lookup_all (l := (ML_likes (gg G)).new) (P := fun i e => vNew RL i e.1 e.2) (all_n) i (c, fs) h, lookup_all (l := (ML_likes (gg G)).anew) (P := fun i e => vANew RL i e) (all_n), lookup_all (l := (ML_likes (gg G)).lng) (P := fun i e => Jvm.Cond.constantLong RL i e ∈ WS) (all_n), lookup_all (l := (ML_likes (gg G)).thr) (P := fun i e => vThr RL cL_likes i e) (all_n), fun h => absurd rfl h, lookup_all (l := (ML_likes (gg G)).cal) (P := fun i e => vCal l G RL i e) (all_c (⟨cX1_likes, 2, some .int, fun y hy => by subst hy; exact ⟨by decide, ⟨_, wk_1055, okX1_likes hl, Or.inl ⟨Nat.ne_of_beq_eq_false rfl, rfl⟩⟩, wk_59, ⟨(by decide : yX1_likes.cls ≠ "java/lang/invoke/MethodHandle"), (by decide : yX1_likes.cls ≠ "java/lang/invoke/VarHandle")⟩, ⟨(by decide +kernel : (parseMethodDescriptor yX1_likes.desc).map (fun d => d.parameters.length + 1) = some 2), wk_1052, wk_1053, wk_1054, (RX1, TX1, 7), rfl, rfl⟩⟩⟩) (all_n)), lookup_all (l := (ML_likes (gg G)).stt) (P := fun i e => vStt G RL i e) (all_n), lookup_all (l := (ML_likes (gg G)).cst) (P := fun i e => vCst RL i e) (all_n), fun h => absurd rfl h, rfl, all_c (⟨"java/lang/IndexOutOfBoundsException", by decide, rfl, by decide, wk_348⟩) (all_c (⟨"java/lang/IllegalStateException", by decide, rfl, by decide, wk_869⟩) (all_n))⟩
theorem okL_likes {l : Launch} (hl : l.stackTraces = false) {G : GT} : ∀ (args : List Value) (w : Hw) (S : Ot → Hw → Prop), spOf (ML_likes (gg G)) args w S → CX l G yL_likes (.codeWith yL_likes cL_likes 4 (some .int) [(0, 10, 13, 19), (0, 10, 16, 74)]) 9 2 12 args w S := CX_spH (M := ML_likes (gg G)) (y := yL_likes) hl (by decide) rfl (vML_likes hl G) (fun h => by cases h)
/-! RangecardLaw.lay(LRangecard;ILRangecardLaw$Out;)I -/
theorem dL_lay_0 : decode cL_lay 0 = .ok (.aload_n 2, 1) := by decide +kernel
theorem dL_lay_1 : decode cL_lay 1 = .ok (.aload_n 0, 1) := by decide +kernel
theorem dL_lay_2 : decode cL_lay 2 = .ok (.iload_n 1, 1) := by decide +kernel
theorem dL_lay_3 : decode cL_lay 3 = .ok (.invokevirtual 146, 3) := by decide +kernel
theorem dL_lay_6 : decode cL_lay 6 = .ok (.i2l, 1) := by decide +kernel
theorem dL_lay_7 : decode cL_lay 7 = .ok (.putfield 13, 3) := by decide +kernel
theorem dL_lay_10 : decode cL_lay 10 = .ok (.goto 9, 3) := by decide +kernel
theorem dL_lay_13 : decode cL_lay 13 = .ok (.astore_n 3, 1) := by decide +kernel
theorem dL_lay_14 : decode cL_lay 14 = .ok (.iconst 1, 1) := by decide +kernel
theorem dL_lay_15 : decode cL_lay 15 = .ok (.ireturn, 1) := by decide +kernel
theorem dL_lay_16 : decode cL_lay 16 = .ok (.astore_n 3, 1) := by decide +kernel
theorem dL_lay_17 : decode cL_lay 17 = .ok (.iconst 2, 1) := by decide +kernel
theorem dL_lay_18 : decode cL_lay 18 = .ok (.ireturn, 1) := by decide +kernel
theorem dL_lay_19 : decode cL_lay 19 = .ok (.iconst 0, 1) := by decide +kernel
theorem dL_lay_20 : decode cL_lay 20 = .ok (.ireturn, 1) := by decide +kernel
def ML_lay (g : RO) : MT := ((RL, cL_lay, 4, 9, 2, 12, false, some .int), [(13, 6, 0)], [], [], [], [], 0, [(146, 2, 2, 5, 8, (fun _ _ => 2), (fun _ _ => 12), yX1_lay, spOf (MX1_lay g))], [], [], 0, [(0, 10, 13, 19), (0, 10, 16, 74)], [(19, "java/lang/IndexOutOfBoundsException"), (74, "java/lang/IllegalStateException")], g)
section
variable {g : RO} {Q : Ot → Hw → Prop} {st : List Value} {w : Hw} {k n p q : Nat} {a b : Int32} {x y : Int64} {u v : Value} {l0 l1 l2 l3 : Option Value}
theorem eL_lay_0 : WP (ML_lay g) Q (0, [l0, l1, some (.ref p), l3], st, w, k, n) = WP (ML_lay g) Q (1, [l0, l1, some (.ref p), l3], .ref p :: st, w, k, n) := Eq.trans (WP_at (M := (ML_lay g)) rfl dL_lay_0 (Or.inr rfl)) rfl
theorem eL_lay_0N : WP (ML_lay g) Q (0, [l0, l1, some .null, l3], st, w, k, n) = WP (ML_lay g) Q (1, [l0, l1, some .null, l3], .null :: st, w, k, n) := Eq.trans (WP_at (M := (ML_lay g)) rfl dL_lay_0 (Or.inr rfl)) rfl
theorem eL_lay_1 : WP (ML_lay g) Q (1, [some (.ref p), l1, l2, l3], st, w, k, n) = WP (ML_lay g) Q (2, [some (.ref p), l1, l2, l3], .ref p :: st, w, k, n) := Eq.trans (WP_at (M := (ML_lay g)) rfl dL_lay_1 (Or.inr rfl)) rfl
theorem eL_lay_1N : WP (ML_lay g) Q (1, [some .null, l1, l2, l3], st, w, k, n) = WP (ML_lay g) Q (2, [some .null, l1, l2, l3], .null :: st, w, k, n) := Eq.trans (WP_at (M := (ML_lay g)) rfl dL_lay_1 (Or.inr rfl)) rfl
theorem eL_lay_2 : WP (ML_lay g) Q (2, [l0, some (.int a), l2, l3], st, w, k, n) = WP (ML_lay g) Q (3, [l0, some (.int a), l2, l3], .int a :: st, w, k, n) := Eq.trans (WP_at (M := (ML_lay g)) rfl dL_lay_2 (Or.inr rfl)) rfl
theorem eL_lay_3 {z0 : Int32} : WP (ML_lay g) Q (3, [l0, l1, l2, l3], .int z0 :: .ref p :: st, w, k, n) = (go (rd g w p) 5 (fun _ => True) ∧ wt st ≤ 8 ∧ k + 2 ≤ 2 ∧ n + 12 ≤ 12 ∧ WP (MX1_lay g) (kx (fun v w' => WP (ML_lay g) Q (6, [l0, l1, l2, l3], v.toList ++ st, w', k + 2, n + 12)) (fun E w' => hgo (ML_lay g) Q (WP (ML_lay g) Q) 3 [l0, l1, l2, l3] E w' (k + 2) (n + 12))) (0, [some (.ref p), some (.int z0), none], [], w, 0, 0)) := csVH (M := (ML_lay g)) (mc := (fun _ _ => 2)) (ms := (fun _ _ => 12)) (As := [.int z0]) (rest := st) (MX1_lay g) rfl dL_lay_3 (by exact fun h => nomatch (show (none : Option Nat) = some 11 from h)) (by exact fun h => nomatch (show (none : Option Nat) = some 15 from h)) rfl rfl (by decide) (Nat.le_of_ble_eq_true rfl) (Nat.le_of_ble_eq_true rfl) rfl
theorem eL_lay_6 : WP (ML_lay g) Q (6, [l0, l1, l2, l3], .int a :: st, w, k, n) = WP (ML_lay g) Q (7, [l0, l1, l2, l3], .long a.toInt64 :: st, w, k, n) := Eq.trans (WP_at (M := (ML_lay g)) rfl dL_lay_6 (Or.inr rfl)) rfl
theorem eL_lay_7 : WP (ML_lay g) Q (7, [l0, l1, l2, l3], v :: .ref p :: st, w, k, n) = go (w p) 6 fun fs => 0 < fs.length ∧ (narrow (.long) v = v ∧ fits (.long) v = true) ∧ WP (ML_lay g) Q (10, [l0, l1, l2, l3], st, upw w p (.inr (6, fs.set 0 v)), k, n) := put_e (q := (RX2, TX2, 2)) rfl dL_lay_7 rfl rfl (tyX2_ok 0 (by decide)) (Or.inl rfl)
theorem eL_lay_10 : WP (ML_lay g) Q (10, [l0, l1, l2, l3], st, w, k, n) = WP (ML_lay g) Q (19, [l0, l1, l2, l3], st, w, k, n) := goto_e rfl dL_lay_10 (by decide)
theorem eL_lay_13 : WP (ML_lay g) Q (13, [l0, l1, l2, l3], .ref p :: st, w, k, n) = WP (ML_lay g) Q (14, [l0, l1, nl l2, some (.ref p)], st, w, k, n) := by rw [WP_at (M := (ML_lay g)) rfl dL_lay_13 (Or.inr rfl)]; exact and_t (Nat.le_of_ble_eq_true rfl)
theorem eL_lay_13N : WP (ML_lay g) Q (13, [l0, l1, l2, l3], .null :: st, w, k, n) = WP (ML_lay g) Q (14, [l0, l1, nl l2, some (.null)], st, w, k, n) := by rw [WP_at (M := (ML_lay g)) rfl dL_lay_13 (Or.inr rfl)]; exact and_t (Nat.le_of_ble_eq_true rfl)
theorem eL_lay_14 : WP (ML_lay g) Q (14, [l0, l1, l2, l3], st, w, k, n) = WP (ML_lay g) Q (15, [l0, l1, l2, l3], .int 1 :: st, w, k, n) := iconst_e rfl dL_lay_14 (by decide)
theorem eL_lay_15 : WP (ML_lay g) Q (15, [l0, l1, l2, l3], [.int a], w, k, n) = (k ≤ 2 ∧ n ≤ 12 ∧ Q (.inl (some (.int a))) w) := iretI_e rfl dL_lay_15 rfl
theorem eL_lay_16 : WP (ML_lay g) Q (16, [l0, l1, l2, l3], .ref p :: st, w, k, n) = WP (ML_lay g) Q (17, [l0, l1, nl l2, some (.ref p)], st, w, k, n) := by rw [WP_at (M := (ML_lay g)) rfl dL_lay_16 (Or.inr rfl)]; exact and_t (Nat.le_of_ble_eq_true rfl)
theorem eL_lay_16N : WP (ML_lay g) Q (16, [l0, l1, l2, l3], .null :: st, w, k, n) = WP (ML_lay g) Q (17, [l0, l1, nl l2, some (.null)], st, w, k, n) := by rw [WP_at (M := (ML_lay g)) rfl dL_lay_16 (Or.inr rfl)]; exact and_t (Nat.le_of_ble_eq_true rfl)
theorem eL_lay_17 : WP (ML_lay g) Q (17, [l0, l1, l2, l3], st, w, k, n) = WP (ML_lay g) Q (18, [l0, l1, l2, l3], .int 2 :: st, w, k, n) := iconst_e rfl dL_lay_17 (by decide)
theorem eL_lay_18 : WP (ML_lay g) Q (18, [l0, l1, l2, l3], [.int a], w, k, n) = (k ≤ 2 ∧ n ≤ 12 ∧ Q (.inl (some (.int a))) w) := iretI_e rfl dL_lay_18 rfl
theorem eL_lay_19 : WP (ML_lay g) Q (19, [l0, l1, l2, l3], st, w, k, n) = WP (ML_lay g) Q (20, [l0, l1, l2, l3], .int 0 :: st, w, k, n) := iconst_e rfl dL_lay_19 (by decide)
theorem eL_lay_20 : WP (ML_lay g) Q (20, [l0, l1, l2, l3], [.int a], w, k, n) = (k ≤ 2 ∧ n ≤ 12 ∧ Q (.inl (some (.int a))) w) := iretI_e rfl dL_lay_20 rfl
end
theorem wk_1062 : (.code yX1_lay cX1_lay 3 (some .int) : Jvm.Cond) ∈ WS := WS_at 1062 (by decide +kernel) rfl
theorem wk_1059 : (.methodLink RL 146 yX1_lay : Jvm.Cond) ∈ WS := WS_at 1059 (by decide +kernel) rfl
theorem wk_1060 : (.instanceMethod yX1_lay : Jvm.Cond) ∈ WS := WS_at 1060 (by decide +kernel) rfl
theorem wk_1061 : (.selects RX1 yX1_lay yX1_lay : Jvm.Cond) ∈ WS := WS_at 1061 (by decide +kernel) rfl
theorem vML_lay {l : Launch} (hl : l.stackTraces = false) (G : GT) : vM l G (ML_lay (gg G)) := ⟨fun i c j h => lookup_all (l := (ML_lay (gg G)).fld) (P := fun i e => vFld RL i e.1 e.2) (all_c (vF_RL_13) (all_n)) i (c, j) h, fun i c fs h => lookup_all (l := (ML_lay (gg G)).new) (P := fun i e => vNew RL i e.1 e.2) (all_n) i (c, fs) h, lookup_all (l := (ML_lay (gg G)).anew) (P := fun i e => vANew RL i e) (all_n), lookup_all (l := (ML_lay (gg G)).lng) (P := fun i e => Jvm.Cond.constantLong RL i e ∈ WS) (all_n), lookup_all (l := (ML_lay (gg G)).thr) (P := fun i e => vThr RL cL_lay i e) (all_n), fun h => absurd rfl h, lookup_all (l := (ML_lay (gg G)).cal) (P := fun i e => vCal l G RL i e) (all_c (⟨cX1_lay, 3, some .int, fun y hy => by subst hy; exact ⟨by decide, ⟨_, wk_1062, okX1_lay hl, Or.inl ⟨Nat.ne_of_beq_eq_false rfl, rfl⟩⟩, wk_59, ⟨(by decide : yX1_lay.cls ≠ "java/lang/invoke/MethodHandle"), (by decide : yX1_lay.cls ≠ "java/lang/invoke/VarHandle")⟩, ⟨(by decide +kernel : (parseMethodDescriptor yX1_lay.desc).map (fun d => d.parameters.length + 1) = some 2), wk_1059, wk_1060, wk_1061, (RX1, TX1, 7), rfl, rfl⟩⟩⟩) (all_n)), lookup_all (l := (ML_lay (gg G)).stt) (P := fun i e => vStt G RL i e) (all_n), lookup_all (l := (ML_lay (gg G)).cst) (P := fun i e => vCst RL i e) (all_n), fun h => absurd rfl h, rfl, all_c (⟨"java/lang/IndexOutOfBoundsException", by decide, rfl, by decide, wk_348⟩) (all_c (⟨"java/lang/IllegalStateException", by decide, rfl, by decide, wk_869⟩) (all_n))⟩
theorem okL_lay {l : Launch} (hl : l.stackTraces = false) {G : GT} : ∀ (args : List Value) (w : Hw) (S : Ot → Hw → Prop), spOf (ML_lay (gg G)) args w S → CX l G yL_lay (.codeWith yL_lay cL_lay 4 (some .int) [(0, 10, 13, 19), (0, 10, 16, 74)]) 9 2 12 args w S := CX_spH (M := ML_lay (gg G)) (y := yL_lay) hl (by decide) rfl (vML_lay hl G) (fun h => by cases h)
/-! RangecardLaw.seek(LRangecard;IZLRangecardLaw$Out;)I -/
theorem dL_seek_0 : decode cL_seek 0 = .ok (.aload_n 3, 1) := by decide +kernel
theorem dL_seek_1 : decode cL_seek 1 = .ok (.aload_n 0, 1) := by decide +kernel
theorem dL_seek_2 : decode cL_seek 2 = .ok (.iload_n 1, 1) := by decide +kernel
theorem dL_seek_3 : decode cL_seek 3 = .ok (.iload_n 2, 1) := by decide +kernel
theorem dL_seek_4 : decode cL_seek 4 = .ok (.invokevirtual 149, 3) := by decide +kernel
theorem dL_seek_7 : decode cL_seek 7 = .ok (.i2l, 1) := by decide +kernel
theorem dL_seek_8 : decode cL_seek 8 = .ok (.putfield 13, 3) := by decide +kernel
theorem dL_seek_11 : decode cL_seek 11 = .ok (.goto 11, 3) := by decide +kernel
theorem dL_seek_14 : decode cL_seek 14 = .ok (.astore 4, 2) := by decide +kernel
theorem dL_seek_16 : decode cL_seek 16 = .ok (.iconst 1, 1) := by decide +kernel
theorem dL_seek_17 : decode cL_seek 17 = .ok (.ireturn, 1) := by decide +kernel
theorem dL_seek_18 : decode cL_seek 18 = .ok (.astore 4, 2) := by decide +kernel
theorem dL_seek_20 : decode cL_seek 20 = .ok (.iconst 2, 1) := by decide +kernel
theorem dL_seek_21 : decode cL_seek 21 = .ok (.ireturn, 1) := by decide +kernel
theorem dL_seek_22 : decode cL_seek 22 = .ok (.iconst 0, 1) := by decide +kernel
theorem dL_seek_23 : decode cL_seek 23 = .ok (.ireturn, 1) := by decide +kernel
def ML_seek (g : RO) : MT := ((RL, cL_seek, 5, 9, 2, 12, false, some .int), [(13, 6, 0)], [], [], [], [], 0, [(149, 2, 3, 5, 8, (fun _ _ => 2), (fun _ _ => 12), yX1_seek, spOf (MX1_seek g))], [], [], 0, [(0, 11, 14, 19), (0, 11, 18, 74)], [(19, "java/lang/IndexOutOfBoundsException"), (74, "java/lang/IllegalStateException")], g)
section
variable {g : RO} {Q : Ot → Hw → Prop} {st : List Value} {w : Hw} {k n p q : Nat} {a b : Int32} {x y : Int64} {u v : Value} {l0 l1 l2 l3 l4 : Option Value}
theorem eL_seek_0 : WP (ML_seek g) Q (0, [l0, l1, l2, some (.ref p), l4], st, w, k, n) = WP (ML_seek g) Q (1, [l0, l1, l2, some (.ref p), l4], .ref p :: st, w, k, n) := Eq.trans (WP_at (M := (ML_seek g)) rfl dL_seek_0 (Or.inr rfl)) rfl
theorem eL_seek_0N : WP (ML_seek g) Q (0, [l0, l1, l2, some .null, l4], st, w, k, n) = WP (ML_seek g) Q (1, [l0, l1, l2, some .null, l4], .null :: st, w, k, n) := Eq.trans (WP_at (M := (ML_seek g)) rfl dL_seek_0 (Or.inr rfl)) rfl
theorem eL_seek_1 : WP (ML_seek g) Q (1, [some (.ref p), l1, l2, l3, l4], st, w, k, n) = WP (ML_seek g) Q (2, [some (.ref p), l1, l2, l3, l4], .ref p :: st, w, k, n) := Eq.trans (WP_at (M := (ML_seek g)) rfl dL_seek_1 (Or.inr rfl)) rfl
theorem eL_seek_1N : WP (ML_seek g) Q (1, [some .null, l1, l2, l3, l4], st, w, k, n) = WP (ML_seek g) Q (2, [some .null, l1, l2, l3, l4], .null :: st, w, k, n) := Eq.trans (WP_at (M := (ML_seek g)) rfl dL_seek_1 (Or.inr rfl)) rfl
theorem eL_seek_2 : WP (ML_seek g) Q (2, [l0, some (.int a), l2, l3, l4], st, w, k, n) = WP (ML_seek g) Q (3, [l0, some (.int a), l2, l3, l4], .int a :: st, w, k, n) := Eq.trans (WP_at (M := (ML_seek g)) rfl dL_seek_2 (Or.inr rfl)) rfl
theorem eL_seek_3 : WP (ML_seek g) Q (3, [l0, l1, some (.int a), l3, l4], st, w, k, n) = WP (ML_seek g) Q (4, [l0, l1, some (.int a), l3, l4], .int a :: st, w, k, n) := Eq.trans (WP_at (M := (ML_seek g)) rfl dL_seek_3 (Or.inr rfl)) rfl
theorem eL_seek_4 {z0 : Int32} {z1 : Int32} : WP (ML_seek g) Q (4, [l0, l1, l2, l3, l4], .int z1 :: .int z0 :: .ref p :: st, w, k, n) = (go (rd g w p) 5 (fun _ => True) ∧ wt st ≤ 8 ∧ k + 2 ≤ 2 ∧ n + 12 ≤ 12 ∧ WP (MX1_seek g) (kx (fun v w' => WP (ML_seek g) Q (7, [l0, l1, l2, l3, l4], v.toList ++ st, w', k + 2, n + 12)) (fun E w' => hgo (ML_seek g) Q (WP (ML_seek g) Q) 4 [l0, l1, l2, l3, l4] E w' (k + 2) (n + 12))) (0, [some (.ref p), some (.int z0), some (.int z1), none], [], w, 0, 0)) := csVH (M := (ML_seek g)) (mc := (fun _ _ => 2)) (ms := (fun _ _ => 12)) (As := [.int z0, .int z1]) (rest := st) (MX1_seek g) rfl dL_seek_4 (by exact fun h => nomatch (show (none : Option Nat) = some 11 from h)) (by exact fun h => nomatch (show (none : Option Nat) = some 15 from h)) rfl rfl (by decide) (Nat.le_of_ble_eq_true rfl) (Nat.le_of_ble_eq_true rfl) rfl
theorem eL_seek_7 : WP (ML_seek g) Q (7, [l0, l1, l2, l3, l4], .int a :: st, w, k, n) = WP (ML_seek g) Q (8, [l0, l1, l2, l3, l4], .long a.toInt64 :: st, w, k, n) := Eq.trans (WP_at (M := (ML_seek g)) rfl dL_seek_7 (Or.inr rfl)) rfl
theorem eL_seek_8 : WP (ML_seek g) Q (8, [l0, l1, l2, l3, l4], v :: .ref p :: st, w, k, n) = go (w p) 6 fun fs => 0 < fs.length ∧ (narrow (.long) v = v ∧ fits (.long) v = true) ∧ WP (ML_seek g) Q (11, [l0, l1, l2, l3, l4], st, upw w p (.inr (6, fs.set 0 v)), k, n) := put_e (q := (RX2, TX2, 2)) rfl dL_seek_8 rfl rfl (tyX2_ok 0 (by decide)) (Or.inl rfl)
theorem eL_seek_11 : WP (ML_seek g) Q (11, [l0, l1, l2, l3, l4], st, w, k, n) = WP (ML_seek g) Q (22, [l0, l1, l2, l3, l4], st, w, k, n) := goto_e rfl dL_seek_11 (by decide)
theorem eL_seek_14 : WP (ML_seek g) Q (14, [l0, l1, l2, l3, l4], .ref p :: st, w, k, n) = WP (ML_seek g) Q (16, [l0, l1, l2, nl l3, some (.ref p)], st, w, k, n) := by rw [WP_at (M := (ML_seek g)) rfl dL_seek_14 (Or.inr rfl)]; exact and_t (Nat.le_of_ble_eq_true rfl)
theorem eL_seek_14N : WP (ML_seek g) Q (14, [l0, l1, l2, l3, l4], .null :: st, w, k, n) = WP (ML_seek g) Q (16, [l0, l1, l2, nl l3, some (.null)], st, w, k, n) := by rw [WP_at (M := (ML_seek g)) rfl dL_seek_14 (Or.inr rfl)]; exact and_t (Nat.le_of_ble_eq_true rfl)
theorem eL_seek_16 : WP (ML_seek g) Q (16, [l0, l1, l2, l3, l4], st, w, k, n) = WP (ML_seek g) Q (17, [l0, l1, l2, l3, l4], .int 1 :: st, w, k, n) := iconst_e rfl dL_seek_16 (by decide)
theorem eL_seek_17 : WP (ML_seek g) Q (17, [l0, l1, l2, l3, l4], [.int a], w, k, n) = (k ≤ 2 ∧ n ≤ 12 ∧ Q (.inl (some (.int a))) w) := iretI_e rfl dL_seek_17 rfl
theorem eL_seek_18 : WP (ML_seek g) Q (18, [l0, l1, l2, l3, l4], .ref p :: st, w, k, n) = WP (ML_seek g) Q (20, [l0, l1, l2, nl l3, some (.ref p)], st, w, k, n) := by rw [WP_at (M := (ML_seek g)) rfl dL_seek_18 (Or.inr rfl)]; exact and_t (Nat.le_of_ble_eq_true rfl)
theorem eL_seek_18N : WP (ML_seek g) Q (18, [l0, l1, l2, l3, l4], .null :: st, w, k, n) = WP (ML_seek g) Q (20, [l0, l1, l2, nl l3, some (.null)], st, w, k, n) := by rw [WP_at (M := (ML_seek g)) rfl dL_seek_18 (Or.inr rfl)]; exact and_t (Nat.le_of_ble_eq_true rfl)
theorem eL_seek_20 : WP (ML_seek g) Q (20, [l0, l1, l2, l3, l4], st, w, k, n) = WP (ML_seek g) Q (21, [l0, l1, l2, l3, l4], .int 2 :: st, w, k, n) := iconst_e rfl dL_seek_20 (by decide)
theorem eL_seek_21 : WP (ML_seek g) Q (21, [l0, l1, l2, l3, l4], [.int a], w, k, n) = (k ≤ 2 ∧ n ≤ 12 ∧ Q (.inl (some (.int a))) w) := iretI_e rfl dL_seek_21 rfl
theorem eL_seek_22 : WP (ML_seek g) Q (22, [l0, l1, l2, l3, l4], st, w, k, n) = WP (ML_seek g) Q (23, [l0, l1, l2, l3, l4], .int 0 :: st, w, k, n) := iconst_e rfl dL_seek_22 (by decide)
theorem eL_seek_23 : WP (ML_seek g) Q (23, [l0, l1, l2, l3, l4], [.int a], w, k, n) = (k ≤ 2 ∧ n ≤ 12 ∧ Q (.inl (some (.int a))) w) := iretI_e rfl dL_seek_23 rfl
end
theorem wk_1069 : (.code yX1_seek cX1_seek 4 (some .int) : Jvm.Cond) ∈ WS := WS_at 1069 (by decide +kernel) rfl
theorem wk_1066 : (.methodLink RL 149 yX1_seek : Jvm.Cond) ∈ WS := WS_at 1066 (by decide +kernel) rfl
theorem wk_1067 : (.instanceMethod yX1_seek : Jvm.Cond) ∈ WS := WS_at 1067 (by decide +kernel) rfl
theorem wk_1068 : (.selects RX1 yX1_seek yX1_seek : Jvm.Cond) ∈ WS := WS_at 1068 (by decide +kernel) rfl
theorem vML_seek {l : Launch} (hl : l.stackTraces = false) (G : GT) : vM l G (ML_seek (gg G)) := ⟨fun i c j h => lookup_all (l := (ML_seek (gg G)).fld) (P := fun i e => vFld RL i e.1 e.2) (all_c (vF_RL_13) (all_n)) i (c, j) h, fun i c fs h => lookup_all (l := (ML_seek (gg G)).new) (P := fun i e => vNew RL i e.1 e.2) (all_n) i (c, fs) h, lookup_all (l := (ML_seek (gg G)).anew) (P := fun i e => vANew RL i e) (all_n), lookup_all (l := (ML_seek (gg G)).lng) (P := fun i e => Jvm.Cond.constantLong RL i e ∈ WS) (all_n), lookup_all (l := (ML_seek (gg G)).thr) (P := fun i e => vThr RL cL_seek i e) (all_n), fun h => absurd rfl h, lookup_all (l := (ML_seek (gg G)).cal) (P := fun i e => vCal l G RL i e) (all_c (⟨cX1_seek, 4, some .int, fun y hy => by subst hy; exact ⟨by decide, ⟨_, wk_1069, okX1_seek hl, Or.inl ⟨Nat.ne_of_beq_eq_false rfl, rfl⟩⟩, wk_59, ⟨(by decide : yX1_seek.cls ≠ "java/lang/invoke/MethodHandle"), (by decide : yX1_seek.cls ≠ "java/lang/invoke/VarHandle")⟩, ⟨(by decide +kernel : (parseMethodDescriptor yX1_seek.desc).map (fun d => d.parameters.length + 1) = some 3), wk_1066, wk_1067, wk_1068, (RX1, TX1, 7), rfl, rfl⟩⟩⟩) (all_n)), lookup_all (l := (ML_seek (gg G)).stt) (P := fun i e => vStt G RL i e) (all_n), lookup_all (l := (ML_seek (gg G)).cst) (P := fun i e => vCst RL i e) (all_n), fun h => absurd rfl h, rfl, all_c (⟨"java/lang/IndexOutOfBoundsException", by decide, rfl, by decide, wk_348⟩) (all_c (⟨"java/lang/IllegalStateException", by decide, rfl, by decide, wk_869⟩) (all_n))⟩
theorem okL_seek {l : Launch} (hl : l.stackTraces = false) {G : GT} : ∀ (args : List Value) (w : Hw) (S : Ot → Hw → Prop), spOf (ML_seek (gg G)) args w S → CX l G yL_seek (.codeWith yL_seek cL_seek 5 (some .int) [(0, 11, 14, 19), (0, 11, 18, 74)]) 9 2 12 args w S := CX_spH (M := ML_seek (gg G)) (y := yL_seek) hl (by decide) rfl (vML_seek hl G) (fun h => by cases h)
/-! RangecardLaw.howOften(LRangecard;ILRangecardLaw$Out;)I -/
theorem dL_howOften_0 : decode cL_howOften 0 = .ok (.aload_n 2, 1) := by decide +kernel
theorem dL_howOften_1 : decode cL_howOften 1 = .ok (.aload_n 0, 1) := by decide +kernel
theorem dL_howOften_2 : decode cL_howOften 2 = .ok (.iload_n 1, 1) := by decide +kernel
theorem dL_howOften_3 : decode cL_howOften 3 = .ok (.invokevirtual 152, 3) := by decide +kernel
theorem dL_howOften_6 : decode cL_howOften 6 = .ok (.i2l, 1) := by decide +kernel
theorem dL_howOften_7 : decode cL_howOften 7 = .ok (.putfield 13, 3) := by decide +kernel
theorem dL_howOften_10 : decode cL_howOften 10 = .ok (.goto 9, 3) := by decide +kernel
theorem dL_howOften_13 : decode cL_howOften 13 = .ok (.astore_n 3, 1) := by decide +kernel
theorem dL_howOften_14 : decode cL_howOften 14 = .ok (.iconst 1, 1) := by decide +kernel
theorem dL_howOften_15 : decode cL_howOften 15 = .ok (.ireturn, 1) := by decide +kernel
theorem dL_howOften_16 : decode cL_howOften 16 = .ok (.astore_n 3, 1) := by decide +kernel
theorem dL_howOften_17 : decode cL_howOften 17 = .ok (.iconst 2, 1) := by decide +kernel
theorem dL_howOften_18 : decode cL_howOften 18 = .ok (.ireturn, 1) := by decide +kernel
theorem dL_howOften_19 : decode cL_howOften 19 = .ok (.iconst 0, 1) := by decide +kernel
theorem dL_howOften_20 : decode cL_howOften 20 = .ok (.ireturn, 1) := by decide +kernel
def ML_howOften (g : RO) : MT := ((RL, cL_howOften, 4, 9, 2, 12, false, some .int), [(13, 6, 0)], [], [], [], [], 0, [(152, 2, 2, 5, 8, (fun _ _ => 2), (fun _ _ => 12), yX1_howOften, spOf (MX1_howOften g))], [], [], 0, [(0, 10, 13, 19), (0, 10, 16, 74)], [(19, "java/lang/IndexOutOfBoundsException"), (74, "java/lang/IllegalStateException")], g)
section
variable {g : RO} {Q : Ot → Hw → Prop} {st : List Value} {w : Hw} {k n p q : Nat} {a b : Int32} {x y : Int64} {u v : Value} {l0 l1 l2 l3 : Option Value}
theorem eL_howOften_0 : WP (ML_howOften g) Q (0, [l0, l1, some (.ref p), l3], st, w, k, n) = WP (ML_howOften g) Q (1, [l0, l1, some (.ref p), l3], .ref p :: st, w, k, n) := Eq.trans (WP_at (M := (ML_howOften g)) rfl dL_howOften_0 (Or.inr rfl)) rfl
theorem eL_howOften_0N : WP (ML_howOften g) Q (0, [l0, l1, some .null, l3], st, w, k, n) = WP (ML_howOften g) Q (1, [l0, l1, some .null, l3], .null :: st, w, k, n) := Eq.trans (WP_at (M := (ML_howOften g)) rfl dL_howOften_0 (Or.inr rfl)) rfl
theorem eL_howOften_1 : WP (ML_howOften g) Q (1, [some (.ref p), l1, l2, l3], st, w, k, n) = WP (ML_howOften g) Q (2, [some (.ref p), l1, l2, l3], .ref p :: st, w, k, n) := Eq.trans (WP_at (M := (ML_howOften g)) rfl dL_howOften_1 (Or.inr rfl)) rfl
theorem eL_howOften_1N : WP (ML_howOften g) Q (1, [some .null, l1, l2, l3], st, w, k, n) = WP (ML_howOften g) Q (2, [some .null, l1, l2, l3], .null :: st, w, k, n) := Eq.trans (WP_at (M := (ML_howOften g)) rfl dL_howOften_1 (Or.inr rfl)) rfl
theorem eL_howOften_2 : WP (ML_howOften g) Q (2, [l0, some (.int a), l2, l3], st, w, k, n) = WP (ML_howOften g) Q (3, [l0, some (.int a), l2, l3], .int a :: st, w, k, n) := Eq.trans (WP_at (M := (ML_howOften g)) rfl dL_howOften_2 (Or.inr rfl)) rfl
theorem eL_howOften_3 {z0 : Int32} : WP (ML_howOften g) Q (3, [l0, l1, l2, l3], .int z0 :: .ref p :: st, w, k, n) = (go (rd g w p) 5 (fun _ => True) ∧ wt st ≤ 8 ∧ k + 2 ≤ 2 ∧ n + 12 ≤ 12 ∧ WP (MX1_howOften g) (kx (fun v w' => WP (ML_howOften g) Q (6, [l0, l1, l2, l3], v.toList ++ st, w', k + 2, n + 12)) (fun E w' => hgo (ML_howOften g) Q (WP (ML_howOften g) Q) 3 [l0, l1, l2, l3] E w' (k + 2) (n + 12))) (0, [some (.ref p), some (.int z0)], [], w, 0, 0)) := csVH (M := (ML_howOften g)) (mc := (fun _ _ => 2)) (ms := (fun _ _ => 12)) (As := [.int z0]) (rest := st) (MX1_howOften g) rfl dL_howOften_3 (by exact fun h => nomatch (show (none : Option Nat) = some 11 from h)) (by exact fun h => nomatch (show (none : Option Nat) = some 15 from h)) rfl rfl (by decide) (Nat.le_of_ble_eq_true rfl) (Nat.le_of_ble_eq_true rfl) rfl
theorem eL_howOften_6 : WP (ML_howOften g) Q (6, [l0, l1, l2, l3], .int a :: st, w, k, n) = WP (ML_howOften g) Q (7, [l0, l1, l2, l3], .long a.toInt64 :: st, w, k, n) := Eq.trans (WP_at (M := (ML_howOften g)) rfl dL_howOften_6 (Or.inr rfl)) rfl
theorem eL_howOften_7 : WP (ML_howOften g) Q (7, [l0, l1, l2, l3], v :: .ref p :: st, w, k, n) = go (w p) 6 fun fs => 0 < fs.length ∧ (narrow (.long) v = v ∧ fits (.long) v = true) ∧ WP (ML_howOften g) Q (10, [l0, l1, l2, l3], st, upw w p (.inr (6, fs.set 0 v)), k, n) := put_e (q := (RX2, TX2, 2)) rfl dL_howOften_7 rfl rfl (tyX2_ok 0 (by decide)) (Or.inl rfl)
theorem eL_howOften_10 : WP (ML_howOften g) Q (10, [l0, l1, l2, l3], st, w, k, n) = WP (ML_howOften g) Q (19, [l0, l1, l2, l3], st, w, k, n) := goto_e rfl dL_howOften_10 (by decide)
theorem eL_howOften_13 : WP (ML_howOften g) Q (13, [l0, l1, l2, l3], .ref p :: st, w, k, n) = WP (ML_howOften g) Q (14, [l0, l1, nl l2, some (.ref p)], st, w, k, n) := by rw [WP_at (M := (ML_howOften g)) rfl dL_howOften_13 (Or.inr rfl)]; exact and_t (Nat.le_of_ble_eq_true rfl)
theorem eL_howOften_13N : WP (ML_howOften g) Q (13, [l0, l1, l2, l3], .null :: st, w, k, n) = WP (ML_howOften g) Q (14, [l0, l1, nl l2, some (.null)], st, w, k, n) := by rw [WP_at (M := (ML_howOften g)) rfl dL_howOften_13 (Or.inr rfl)]; exact and_t (Nat.le_of_ble_eq_true rfl)
theorem eL_howOften_14 : WP (ML_howOften g) Q (14, [l0, l1, l2, l3], st, w, k, n) = WP (ML_howOften g) Q (15, [l0, l1, l2, l3], .int 1 :: st, w, k, n) := iconst_e rfl dL_howOften_14 (by decide)
theorem eL_howOften_15 : WP (ML_howOften g) Q (15, [l0, l1, l2, l3], [.int a], w, k, n) = (k ≤ 2 ∧ n ≤ 12 ∧ Q (.inl (some (.int a))) w) := iretI_e rfl dL_howOften_15 rfl
theorem eL_howOften_16 : WP (ML_howOften g) Q (16, [l0, l1, l2, l3], .ref p :: st, w, k, n) = WP (ML_howOften g) Q (17, [l0, l1, nl l2, some (.ref p)], st, w, k, n) := by rw [WP_at (M := (ML_howOften g)) rfl dL_howOften_16 (Or.inr rfl)]; exact and_t (Nat.le_of_ble_eq_true rfl)
theorem eL_howOften_16N : WP (ML_howOften g) Q (16, [l0, l1, l2, l3], .null :: st, w, k, n) = WP (ML_howOften g) Q (17, [l0, l1, nl l2, some (.null)], st, w, k, n) := by rw [WP_at (M := (ML_howOften g)) rfl dL_howOften_16 (Or.inr rfl)]; exact and_t (Nat.le_of_ble_eq_true rfl)
theorem eL_howOften_17 : WP (ML_howOften g) Q (17, [l0, l1, l2, l3], st, w, k, n) = WP (ML_howOften g) Q (18, [l0, l1, l2, l3], .int 2 :: st, w, k, n) := iconst_e rfl dL_howOften_17 (by decide)
theorem eL_howOften_18 : WP (ML_howOften g) Q (18, [l0, l1, l2, l3], [.int a], w, k, n) = (k ≤ 2 ∧ n ≤ 12 ∧ Q (.inl (some (.int a))) w) := iretI_e rfl dL_howOften_18 rfl
theorem eL_howOften_19 : WP (ML_howOften g) Q (19, [l0, l1, l2, l3], st, w, k, n) = WP (ML_howOften g) Q (20, [l0, l1, l2, l3], .int 0 :: st, w, k, n) := iconst_e rfl dL_howOften_19 (by decide)
theorem eL_howOften_20 : WP (ML_howOften g) Q (20, [l0, l1, l2, l3], [.int a], w, k, n) = (k ≤ 2 ∧ n ≤ 12 ∧ Q (.inl (some (.int a))) w) := iretI_e rfl dL_howOften_20 rfl
end
theorem wk_1076 : (.code yX1_howOften cX1_howOften 2 (some .int) : Jvm.Cond) ∈ WS := WS_at 1076 (by decide +kernel) rfl
theorem wk_1073 : (.methodLink RL 152 yX1_howOften : Jvm.Cond) ∈ WS := WS_at 1073 (by decide +kernel) rfl
theorem wk_1074 : (.instanceMethod yX1_howOften : Jvm.Cond) ∈ WS := WS_at 1074 (by decide +kernel) rfl
theorem wk_1075 : (.selects RX1 yX1_howOften yX1_howOften : Jvm.Cond) ∈ WS := WS_at 1075 (by decide +kernel) rfl
theorem vML_howOften {l : Launch} (hl : l.stackTraces = false) (G : GT) : vM l G (ML_howOften (gg G)) := ⟨fun i c j h => lookup_all (l := (ML_howOften (gg G)).fld) (P := fun i e => vFld RL i e.1 e.2) (all_c (vF_RL_13) (all_n)) i (c, j) h, fun i c fs h => lookup_all (l := (ML_howOften (gg G)).new) (P := fun i e => vNew RL i e.1 e.2) (all_n) i (c, fs) h, lookup_all (l := (ML_howOften (gg G)).anew) (P := fun i e => vANew RL i e) (all_n), lookup_all (l := (ML_howOften (gg G)).lng) (P := fun i e => Jvm.Cond.constantLong RL i e ∈ WS) (all_n), lookup_all (l := (ML_howOften (gg G)).thr) (P := fun i e => vThr RL cL_howOften i e) (all_n), fun h => absurd rfl h, lookup_all (l := (ML_howOften (gg G)).cal) (P := fun i e => vCal l G RL i e) (all_c (⟨cX1_howOften, 2, some .int, fun y hy => by subst hy; exact ⟨by decide, ⟨_, wk_1076, okX1_howOften hl, Or.inl ⟨Nat.ne_of_beq_eq_false rfl, rfl⟩⟩, wk_59, ⟨(by decide : yX1_howOften.cls ≠ "java/lang/invoke/MethodHandle"), (by decide : yX1_howOften.cls ≠ "java/lang/invoke/VarHandle")⟩, ⟨(by decide +kernel : (parseMethodDescriptor yX1_howOften.desc).map (fun d => d.parameters.length + 1) = some 2), wk_1073, wk_1074, wk_1075, (RX1, TX1, 7), rfl, rfl⟩⟩⟩) (all_n)), lookup_all (l := (ML_howOften (gg G)).stt) (P := fun i e => vStt G RL i e) (all_n), lookup_all (l := (ML_howOften (gg G)).cst) (P := fun i e => vCst RL i e) (all_n), fun h => absurd rfl h, rfl, all_c (⟨"java/lang/IndexOutOfBoundsException", by decide, rfl, by decide, wk_348⟩) (all_c (⟨"java/lang/IllegalStateException", by decide, rfl, by decide, wk_869⟩) (all_n))⟩
theorem okL_howOften {l : Launch} (hl : l.stackTraces = false) {G : GT} : ∀ (args : List Value) (w : Hw) (S : Ot → Hw → Prop), spOf (ML_howOften (gg G)) args w S → CX l G yL_howOften (.codeWith yL_howOften cL_howOften 4 (some .int) [(0, 10, 13, 19), (0, 10, 16, 74)]) 9 2 12 args w S := CX_spH (M := ML_howOften (gg G)) (y := yL_howOften) hl (by decide) rfl (vML_howOften hl G) (fun h => by cases h)
/-! RangecardLaw.lift(LRangecard;ILRangecardLaw$Out;)I -/
theorem dL_lift_0 : decode cL_lift 0 = .ok (.aload_n 2, 1) := by decide +kernel
theorem dL_lift_1 : decode cL_lift 1 = .ok (.aload_n 0, 1) := by decide +kernel
theorem dL_lift_2 : decode cL_lift 2 = .ok (.iload_n 1, 1) := by decide +kernel
theorem dL_lift_3 : decode cL_lift 3 = .ok (.invokevirtual 155, 3) := by decide +kernel
theorem dL_lift_6 : decode cL_lift 6 = .ok (.i2l, 1) := by decide +kernel
theorem dL_lift_7 : decode cL_lift 7 = .ok (.putfield 13, 3) := by decide +kernel
theorem dL_lift_10 : decode cL_lift 10 = .ok (.goto 9, 3) := by decide +kernel
theorem dL_lift_13 : decode cL_lift 13 = .ok (.astore_n 3, 1) := by decide +kernel
theorem dL_lift_14 : decode cL_lift 14 = .ok (.iconst 1, 1) := by decide +kernel
theorem dL_lift_15 : decode cL_lift 15 = .ok (.ireturn, 1) := by decide +kernel
theorem dL_lift_16 : decode cL_lift 16 = .ok (.astore_n 3, 1) := by decide +kernel
theorem dL_lift_17 : decode cL_lift 17 = .ok (.iconst 2, 1) := by decide +kernel
theorem dL_lift_18 : decode cL_lift 18 = .ok (.ireturn, 1) := by decide +kernel
theorem dL_lift_19 : decode cL_lift 19 = .ok (.iconst 0, 1) := by decide +kernel
theorem dL_lift_20 : decode cL_lift 20 = .ok (.ireturn, 1) := by decide +kernel
def ML_lift (g : RO) : MT := ((RL, cL_lift, 4, 9, 2, 12, false, some .int), [(13, 6, 0)], [], [], [], [], 0, [(155, 2, 2, 5, 8, (fun _ _ => 2), (fun _ _ => 12), yX1_lift, spOf (MX1_lift g))], [], [], 0, [(0, 10, 13, 19), (0, 10, 16, 74)], [(19, "java/lang/IndexOutOfBoundsException"), (74, "java/lang/IllegalStateException")], g)
section
variable {g : RO} {Q : Ot → Hw → Prop} {st : List Value} {w : Hw} {k n p q : Nat} {a b : Int32} {x y : Int64} {u v : Value} {l0 l1 l2 l3 : Option Value}
theorem eL_lift_0 : WP (ML_lift g) Q (0, [l0, l1, some (.ref p), l3], st, w, k, n) = WP (ML_lift g) Q (1, [l0, l1, some (.ref p), l3], .ref p :: st, w, k, n) := Eq.trans (WP_at (M := (ML_lift g)) rfl dL_lift_0 (Or.inr rfl)) rfl
theorem eL_lift_0N : WP (ML_lift g) Q (0, [l0, l1, some .null, l3], st, w, k, n) = WP (ML_lift g) Q (1, [l0, l1, some .null, l3], .null :: st, w, k, n) := Eq.trans (WP_at (M := (ML_lift g)) rfl dL_lift_0 (Or.inr rfl)) rfl
theorem eL_lift_1 : WP (ML_lift g) Q (1, [some (.ref p), l1, l2, l3], st, w, k, n) = WP (ML_lift g) Q (2, [some (.ref p), l1, l2, l3], .ref p :: st, w, k, n) := Eq.trans (WP_at (M := (ML_lift g)) rfl dL_lift_1 (Or.inr rfl)) rfl
theorem eL_lift_1N : WP (ML_lift g) Q (1, [some .null, l1, l2, l3], st, w, k, n) = WP (ML_lift g) Q (2, [some .null, l1, l2, l3], .null :: st, w, k, n) := Eq.trans (WP_at (M := (ML_lift g)) rfl dL_lift_1 (Or.inr rfl)) rfl
theorem eL_lift_2 : WP (ML_lift g) Q (2, [l0, some (.int a), l2, l3], st, w, k, n) = WP (ML_lift g) Q (3, [l0, some (.int a), l2, l3], .int a :: st, w, k, n) := Eq.trans (WP_at (M := (ML_lift g)) rfl dL_lift_2 (Or.inr rfl)) rfl
theorem eL_lift_3 {z0 : Int32} : WP (ML_lift g) Q (3, [l0, l1, l2, l3], .int z0 :: .ref p :: st, w, k, n) = (go (rd g w p) 5 (fun _ => True) ∧ wt st ≤ 8 ∧ k + 2 ≤ 2 ∧ n + 12 ≤ 12 ∧ WP (MX1_lift g) (kx (fun v w' => WP (ML_lift g) Q (6, [l0, l1, l2, l3], v.toList ++ st, w', k + 2, n + 12)) (fun E w' => hgo (ML_lift g) Q (WP (ML_lift g) Q) 3 [l0, l1, l2, l3] E w' (k + 2) (n + 12))) (0, [some (.ref p), some (.int z0), none], [], w, 0, 0)) := csVH (M := (ML_lift g)) (mc := (fun _ _ => 2)) (ms := (fun _ _ => 12)) (As := [.int z0]) (rest := st) (MX1_lift g) rfl dL_lift_3 (by exact fun h => nomatch (show (none : Option Nat) = some 11 from h)) (by exact fun h => nomatch (show (none : Option Nat) = some 15 from h)) rfl rfl (by decide) (Nat.le_of_ble_eq_true rfl) (Nat.le_of_ble_eq_true rfl) rfl
theorem eL_lift_6 : WP (ML_lift g) Q (6, [l0, l1, l2, l3], .int a :: st, w, k, n) = WP (ML_lift g) Q (7, [l0, l1, l2, l3], .long a.toInt64 :: st, w, k, n) := Eq.trans (WP_at (M := (ML_lift g)) rfl dL_lift_6 (Or.inr rfl)) rfl
theorem eL_lift_7 : WP (ML_lift g) Q (7, [l0, l1, l2, l3], v :: .ref p :: st, w, k, n) = go (w p) 6 fun fs => 0 < fs.length ∧ (narrow (.long) v = v ∧ fits (.long) v = true) ∧ WP (ML_lift g) Q (10, [l0, l1, l2, l3], st, upw w p (.inr (6, fs.set 0 v)), k, n) := put_e (q := (RX2, TX2, 2)) rfl dL_lift_7 rfl rfl (tyX2_ok 0 (by decide)) (Or.inl rfl)
theorem eL_lift_10 : WP (ML_lift g) Q (10, [l0, l1, l2, l3], st, w, k, n) = WP (ML_lift g) Q (19, [l0, l1, l2, l3], st, w, k, n) := goto_e rfl dL_lift_10 (by decide)
theorem eL_lift_13 : WP (ML_lift g) Q (13, [l0, l1, l2, l3], .ref p :: st, w, k, n) = WP (ML_lift g) Q (14, [l0, l1, nl l2, some (.ref p)], st, w, k, n) := by rw [WP_at (M := (ML_lift g)) rfl dL_lift_13 (Or.inr rfl)]; exact and_t (Nat.le_of_ble_eq_true rfl)
theorem eL_lift_13N : WP (ML_lift g) Q (13, [l0, l1, l2, l3], .null :: st, w, k, n) = WP (ML_lift g) Q (14, [l0, l1, nl l2, some (.null)], st, w, k, n) := by rw [WP_at (M := (ML_lift g)) rfl dL_lift_13 (Or.inr rfl)]; exact and_t (Nat.le_of_ble_eq_true rfl)
theorem eL_lift_14 : WP (ML_lift g) Q (14, [l0, l1, l2, l3], st, w, k, n) = WP (ML_lift g) Q (15, [l0, l1, l2, l3], .int 1 :: st, w, k, n) := iconst_e rfl dL_lift_14 (by decide)
theorem eL_lift_15 : WP (ML_lift g) Q (15, [l0, l1, l2, l3], [.int a], w, k, n) = (k ≤ 2 ∧ n ≤ 12 ∧ Q (.inl (some (.int a))) w) := iretI_e rfl dL_lift_15 rfl
theorem eL_lift_16 : WP (ML_lift g) Q (16, [l0, l1, l2, l3], .ref p :: st, w, k, n) = WP (ML_lift g) Q (17, [l0, l1, nl l2, some (.ref p)], st, w, k, n) := by rw [WP_at (M := (ML_lift g)) rfl dL_lift_16 (Or.inr rfl)]; exact and_t (Nat.le_of_ble_eq_true rfl)
theorem eL_lift_16N : WP (ML_lift g) Q (16, [l0, l1, l2, l3], .null :: st, w, k, n) = WP (ML_lift g) Q (17, [l0, l1, nl l2, some (.null)], st, w, k, n) := by rw [WP_at (M := (ML_lift g)) rfl dL_lift_16 (Or.inr rfl)]; exact and_t (Nat.le_of_ble_eq_true rfl)
theorem eL_lift_17 : WP (ML_lift g) Q (17, [l0, l1, l2, l3], st, w, k, n) = WP (ML_lift g) Q (18, [l0, l1, l2, l3], .int 2 :: st, w, k, n) := iconst_e rfl dL_lift_17 (by decide)
theorem eL_lift_18 : WP (ML_lift g) Q (18, [l0, l1, l2, l3], [.int a], w, k, n) = (k ≤ 2 ∧ n ≤ 12 ∧ Q (.inl (some (.int a))) w) := iretI_e rfl dL_lift_18 rfl
theorem eL_lift_19 : WP (ML_lift g) Q (19, [l0, l1, l2, l3], st, w, k, n) = WP (ML_lift g) Q (20, [l0, l1, l2, l3], .int 0 :: st, w, k, n) := iconst_e rfl dL_lift_19 (by decide)
theorem eL_lift_20 : WP (ML_lift g) Q (20, [l0, l1, l2, l3], [.int a], w, k, n) = (k ≤ 2 ∧ n ≤ 12 ∧ Q (.inl (some (.int a))) w) := iretI_e rfl dL_lift_20 rfl
end
theorem wk_1083 : (.code yX1_lift cX1_lift 3 (some .int) : Jvm.Cond) ∈ WS := WS_at 1083 (by decide +kernel) rfl
theorem wk_1080 : (.methodLink RL 155 yX1_lift : Jvm.Cond) ∈ WS := WS_at 1080 (by decide +kernel) rfl
theorem wk_1081 : (.instanceMethod yX1_lift : Jvm.Cond) ∈ WS := WS_at 1081 (by decide +kernel) rfl
theorem wk_1082 : (.selects RX1 yX1_lift yX1_lift : Jvm.Cond) ∈ WS := WS_at 1082 (by decide +kernel) rfl
theorem vML_lift {l : Launch} (hl : l.stackTraces = false) (G : GT) : vM l G (ML_lift (gg G)) := ⟨fun i c j h => lookup_all (l := (ML_lift (gg G)).fld) (P := fun i e => vFld RL i e.1 e.2) (all_c (vF_RL_13) (all_n)) i (c, j) h, fun i c fs h => lookup_all (l := (ML_lift (gg G)).new) (P := fun i e => vNew RL i e.1 e.2) (all_n) i (c, fs) h, lookup_all (l := (ML_lift (gg G)).anew) (P := fun i e => vANew RL i e) (all_n), lookup_all (l := (ML_lift (gg G)).lng) (P := fun i e => Jvm.Cond.constantLong RL i e ∈ WS) (all_n), lookup_all (l := (ML_lift (gg G)).thr) (P := fun i e => vThr RL cL_lift i e) (all_n), fun h => absurd rfl h, lookup_all (l := (ML_lift (gg G)).cal) (P := fun i e => vCal l G RL i e) (all_c (⟨cX1_lift, 3, some .int, fun y hy => by subst hy; exact ⟨by decide, ⟨_, wk_1083, okX1_lift hl, Or.inl ⟨Nat.ne_of_beq_eq_false rfl, rfl⟩⟩, wk_59, ⟨(by decide : yX1_lift.cls ≠ "java/lang/invoke/MethodHandle"), (by decide : yX1_lift.cls ≠ "java/lang/invoke/VarHandle")⟩, ⟨(by decide +kernel : (parseMethodDescriptor yX1_lift.desc).map (fun d => d.parameters.length + 1) = some 2), wk_1080, wk_1081, wk_1082, (RX1, TX1, 7), rfl, rfl⟩⟩⟩) (all_n)), lookup_all (l := (ML_lift (gg G)).stt) (P := fun i e => vStt G RL i e) (all_n), lookup_all (l := (ML_lift (gg G)).cst) (P := fun i e => vCst RL i e) (all_n), fun h => absurd rfl h, rfl, all_c (⟨"java/lang/IndexOutOfBoundsException", by decide, rfl, by decide, wk_348⟩) (all_c (⟨"java/lang/IllegalStateException", by decide, rfl, by decide, wk_869⟩) (all_n))⟩
theorem okL_lift {l : Launch} (hl : l.stackTraces = false) {G : GT} : ∀ (args : List Value) (w : Hw) (S : Ot → Hw → Prop), spOf (ML_lift (gg G)) args w S → CX l G yL_lift (.codeWith yL_lift cL_lift 4 (some .int) [(0, 10, 13, 19), (0, 10, 16, 74)]) 9 2 12 args w S := CX_spH (M := ML_lift (gg G)) (y := yL_lift) hl (by decide) rfl (vML_lift hl G) (fun h => by cases h)
