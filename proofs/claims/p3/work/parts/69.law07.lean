/-! RangecardLaw.pick(LRangecard;IILRangecardLaw$Out;)I -/
theorem dL_pick_0 : decode cL_pick 0 = .ok (.aload_n 3, 1) := by decide +kernel
theorem dL_pick_1 : decode cL_pick 1 = .ok (.aload_n 0, 1) := by decide +kernel
theorem dL_pick_2 : decode cL_pick 2 = .ok (.iload_n 1, 1) := by decide +kernel
theorem dL_pick_3 : decode cL_pick 3 = .ok (.iload_n 2, 1) := by decide +kernel
theorem dL_pick_4 : decode cL_pick 4 = .ok (.invokevirtual 158, 3) := by decide +kernel
theorem dL_pick_7 : decode cL_pick 7 = .ok (.i2l, 1) := by decide +kernel
theorem dL_pick_8 : decode cL_pick 8 = .ok (.putfield 13, 3) := by decide +kernel
theorem dL_pick_11 : decode cL_pick 11 = .ok (.goto 7, 3) := by decide +kernel
theorem dL_pick_14 : decode cL_pick 14 = .ok (.astore 4, 2) := by decide +kernel
theorem dL_pick_16 : decode cL_pick 16 = .ok (.iconst 1, 1) := by decide +kernel
theorem dL_pick_17 : decode cL_pick 17 = .ok (.ireturn, 1) := by decide +kernel
theorem dL_pick_18 : decode cL_pick 18 = .ok (.iconst 0, 1) := by decide +kernel
theorem dL_pick_19 : decode cL_pick 19 = .ok (.ireturn, 1) := by decide +kernel
def ML_pick (g : RO) : MT := ((RL, cL_pick, 5, 8, 2, 12, false, some .int), [(13, 6, 0)], [], [], [], [], 0, [(158, 2, 3, 5, 7, (fun _ _ => 2), (fun _ _ => 12), yX1_pick, spOf (MX1_pick g))], [], [], 0, [(0, 11, 14, 19)], [(19, "java/lang/IndexOutOfBoundsException")], g)
section
variable {g : RO} {Q : Ot → Hw → Prop} {st : List Value} {w : Hw} {k n p q : Nat} {a b : Int32} {x y : Int64} {u v : Value} {l0 l1 l2 l3 l4 : Option Value}
theorem eL_pick_0 : WP (ML_pick g) Q (0, [l0, l1, l2, some (.ref p), l4], st, w, k, n) = WP (ML_pick g) Q (1, [l0, l1, l2, some (.ref p), l4], .ref p :: st, w, k, n) := Eq.trans (WP_at (M := (ML_pick g)) rfl dL_pick_0 (Or.inr rfl)) rfl
theorem eL_pick_0N : WP (ML_pick g) Q (0, [l0, l1, l2, some .null, l4], st, w, k, n) = WP (ML_pick g) Q (1, [l0, l1, l2, some .null, l4], .null :: st, w, k, n) := Eq.trans (WP_at (M := (ML_pick g)) rfl dL_pick_0 (Or.inr rfl)) rfl
theorem eL_pick_1 : WP (ML_pick g) Q (1, [some (.ref p), l1, l2, l3, l4], st, w, k, n) = WP (ML_pick g) Q (2, [some (.ref p), l1, l2, l3, l4], .ref p :: st, w, k, n) := Eq.trans (WP_at (M := (ML_pick g)) rfl dL_pick_1 (Or.inr rfl)) rfl
theorem eL_pick_1N : WP (ML_pick g) Q (1, [some .null, l1, l2, l3, l4], st, w, k, n) = WP (ML_pick g) Q (2, [some .null, l1, l2, l3, l4], .null :: st, w, k, n) := Eq.trans (WP_at (M := (ML_pick g)) rfl dL_pick_1 (Or.inr rfl)) rfl
theorem eL_pick_2 : WP (ML_pick g) Q (2, [l0, some (.int a), l2, l3, l4], st, w, k, n) = WP (ML_pick g) Q (3, [l0, some (.int a), l2, l3, l4], .int a :: st, w, k, n) := Eq.trans (WP_at (M := (ML_pick g)) rfl dL_pick_2 (Or.inr rfl)) rfl
theorem eL_pick_3 : WP (ML_pick g) Q (3, [l0, l1, some (.int a), l3, l4], st, w, k, n) = WP (ML_pick g) Q (4, [l0, l1, some (.int a), l3, l4], .int a :: st, w, k, n) := Eq.trans (WP_at (M := (ML_pick g)) rfl dL_pick_3 (Or.inr rfl)) rfl
theorem eL_pick_4 {z0 : Int32} {z1 : Int32} : WP (ML_pick g) Q (4, [l0, l1, l2, l3, l4], .int z1 :: .int z0 :: .ref p :: st, w, k, n) = (go (rd g w p) 5 (fun _ => True) ∧ wt st ≤ 8 ∧ k + 2 ≤ 2 ∧ n + 12 ≤ 12 ∧ WP (MX1_pick g) (kx (fun v w' => WP (ML_pick g) Q (7, [l0, l1, l2, l3, l4], v.toList ++ st, w', k + 2, n + 12)) (fun E w' => hgo (ML_pick g) Q (WP (ML_pick g) Q) 4 [l0, l1, l2, l3, l4] E w' (k + 2) (n + 12))) (0, [some (.ref p), some (.int z0), some (.int z1), none], [], w, 0, 0)) := csVH (M := (ML_pick g)) (mc := (fun _ _ => 2)) (ms := (fun _ _ => 12)) (As := [.int z0, .int z1]) (rest := st) (MX1_pick g) rfl dL_pick_4 (by exact fun h => nomatch (show (none : Option Nat) = some 11 from h)) (by exact fun h => nomatch (show (none : Option Nat) = some 15 from h)) rfl rfl (by decide) (Nat.le_of_ble_eq_true rfl) (Nat.le_of_ble_eq_true rfl) rfl
theorem eL_pick_7 : WP (ML_pick g) Q (7, [l0, l1, l2, l3, l4], .int a :: st, w, k, n) = WP (ML_pick g) Q (8, [l0, l1, l2, l3, l4], .long a.toInt64 :: st, w, k, n) := Eq.trans (WP_at (M := (ML_pick g)) rfl dL_pick_7 (Or.inr rfl)) rfl
theorem eL_pick_8 : WP (ML_pick g) Q (8, [l0, l1, l2, l3, l4], v :: .ref p :: st, w, k, n) = go (w p) 6 fun fs => 0 < fs.length ∧ (narrow (.long) v = v ∧ fits (.long) v = true) ∧ WP (ML_pick g) Q (11, [l0, l1, l2, l3, l4], st, upw w p (.inr (6, fs.set 0 v)), k, n) := put_e (q := (RX2, TX2, 2)) rfl dL_pick_8 rfl rfl (tyX2_ok 0 (by decide)) (Or.inl rfl)
theorem eL_pick_11 : WP (ML_pick g) Q (11, [l0, l1, l2, l3, l4], st, w, k, n) = WP (ML_pick g) Q (18, [l0, l1, l2, l3, l4], st, w, k, n) := goto_e rfl dL_pick_11 (by decide)
theorem eL_pick_14 : WP (ML_pick g) Q (14, [l0, l1, l2, l3, l4], .ref p :: st, w, k, n) = WP (ML_pick g) Q (16, [l0, l1, l2, nl l3, some (.ref p)], st, w, k, n) := by rw [WP_at (M := (ML_pick g)) rfl dL_pick_14 (Or.inr rfl)]; exact and_t (Nat.le_of_ble_eq_true rfl)
theorem eL_pick_14N : WP (ML_pick g) Q (14, [l0, l1, l2, l3, l4], .null :: st, w, k, n) = WP (ML_pick g) Q (16, [l0, l1, l2, nl l3, some (.null)], st, w, k, n) := by rw [WP_at (M := (ML_pick g)) rfl dL_pick_14 (Or.inr rfl)]; exact and_t (Nat.le_of_ble_eq_true rfl)
theorem eL_pick_16 : WP (ML_pick g) Q (16, [l0, l1, l2, l3, l4], st, w, k, n) = WP (ML_pick g) Q (17, [l0, l1, l2, l3, l4], .int 1 :: st, w, k, n) := iconst_e rfl dL_pick_16 (by decide)
theorem eL_pick_17 : WP (ML_pick g) Q (17, [l0, l1, l2, l3, l4], [.int a], w, k, n) = (k ≤ 2 ∧ n ≤ 12 ∧ Q (.inl (some (.int a))) w) := iretI_e rfl dL_pick_17 rfl
theorem eL_pick_18 : WP (ML_pick g) Q (18, [l0, l1, l2, l3, l4], st, w, k, n) = WP (ML_pick g) Q (19, [l0, l1, l2, l3, l4], .int 0 :: st, w, k, n) := iconst_e rfl dL_pick_18 (by decide)
theorem eL_pick_19 : WP (ML_pick g) Q (19, [l0, l1, l2, l3, l4], [.int a], w, k, n) = (k ≤ 2 ∧ n ≤ 12 ∧ Q (.inl (some (.int a))) w) := iretI_e rfl dL_pick_19 rfl
end
theorem wk_1094 : (.code yX1_pick cX1_pick 4 (some .int) : Jvm.Cond) ∈ WS := WS_at 1094 (by decide +kernel) rfl
theorem wk_1091 : (.methodLink RL 158 yX1_pick : Jvm.Cond) ∈ WS := WS_at 1091 (by decide +kernel) rfl
theorem wk_1092 : (.instanceMethod yX1_pick : Jvm.Cond) ∈ WS := WS_at 1092 (by decide +kernel) rfl
theorem wk_1093 : (.selects RX1 yX1_pick yX1_pick : Jvm.Cond) ∈ WS := WS_at 1093 (by decide +kernel) rfl
theorem vML_pick {l : Launch} (hl : l.stackTraces = false) (G : GT) : vM l G (ML_pick (gg G)) := ⟨fun i c j h => lookup_all (l := (ML_pick (gg G)).fld) (P := fun i e => vFld RL i e.1 e.2) (all_c (vF_RL_13) (all_n)) i (c, j) h, fun i c fs h => lookup_all (l := (ML_pick (gg G)).new) (P := fun i e => vNew RL i e.1 e.2) (all_n) i (c, fs) h, lookup_all (l := (ML_pick (gg G)).anew) (P := fun i e => vANew RL i e) (all_n), lookup_all (l := (ML_pick (gg G)).lng) (P := fun i e => Jvm.Cond.constantLong RL i e ∈ WS) (all_n), lookup_all (l := (ML_pick (gg G)).thr) (P := fun i e => vThr RL cL_pick i e) (all_n), fun h => absurd rfl h, lookup_all (l := (ML_pick (gg G)).cal) (P := fun i e => vCal l G RL i e) (all_c (⟨cX1_pick, 4, some .int, fun y hy => by subst hy; exact ⟨by decide, ⟨_, wk_1094, okX1_pick hl, Or.inl ⟨Nat.ne_of_beq_eq_false rfl, rfl⟩⟩, wk_59, ⟨(by decide : yX1_pick.cls ≠ "java/lang/invoke/MethodHandle"), (by decide : yX1_pick.cls ≠ "java/lang/invoke/VarHandle")⟩, ⟨(by decide +kernel : (parseMethodDescriptor yX1_pick.desc).map (fun d => d.parameters.length + 1) = some 3), wk_1091, wk_1092, wk_1093, (RX1, TX1, 7), rfl, rfl⟩⟩⟩) (all_n)), lookup_all (l := (ML_pick (gg G)).stt) (P := fun i e => vStt G RL i e) (all_n), lookup_all (l := (ML_pick (gg G)).cst) (P := fun i e => vCst RL i e) (all_n), fun h => absurd rfl h, rfl, all_c (⟨"java/lang/IndexOutOfBoundsException", by decide, rfl, by decide, wk_348⟩) (all_n)⟩
theorem okL_pick {l : Launch} (hl : l.stackTraces = false) {G : GT} : ∀ (args : List Value) (w : Hw) (S : Ot → Hw → Prop), spOf (ML_pick (gg G)) args w S → CX l G yL_pick (.codeWith yL_pick cL_pick 5 (some .int) [(0, 11, 14, 19)]) 8 2 12 args w S := CX_spH (M := ML_pick (gg G)) (y := yL_pick) hl (by decide) rfl (vML_pick hl G) (fun h => by cases h)
/-! RangecardLaw.pile(LRangecard;IILRangecardLaw$Out;)I -/
theorem dL_pile_0 : decode cL_pile 0 = .ok (.aload_n 3, 1) := by decide +kernel
theorem dL_pile_1 : decode cL_pile 1 = .ok (.aload_n 0, 1) := by decide +kernel
theorem dL_pile_2 : decode cL_pile 2 = .ok (.iload_n 1, 1) := by decide +kernel
theorem dL_pile_3 : decode cL_pile 3 = .ok (.iload_n 2, 1) := by decide +kernel
theorem dL_pile_4 : decode cL_pile 4 = .ok (.invokevirtual 161, 3) := by decide +kernel
theorem dL_pile_7 : decode cL_pile 7 = .ok (.i2l, 1) := by decide +kernel
theorem dL_pile_8 : decode cL_pile 8 = .ok (.putfield 13, 3) := by decide +kernel
theorem dL_pile_11 : decode cL_pile 11 = .ok (.goto 11, 3) := by decide +kernel
theorem dL_pile_14 : decode cL_pile 14 = .ok (.astore 4, 2) := by decide +kernel
theorem dL_pile_16 : decode cL_pile 16 = .ok (.iconst 1, 1) := by decide +kernel
theorem dL_pile_17 : decode cL_pile 17 = .ok (.ireturn, 1) := by decide +kernel
theorem dL_pile_18 : decode cL_pile 18 = .ok (.astore 4, 2) := by decide +kernel
theorem dL_pile_20 : decode cL_pile 20 = .ok (.iconst 2, 1) := by decide +kernel
theorem dL_pile_21 : decode cL_pile 21 = .ok (.ireturn, 1) := by decide +kernel
theorem dL_pile_22 : decode cL_pile 22 = .ok (.iconst 0, 1) := by decide +kernel
theorem dL_pile_23 : decode cL_pile 23 = .ok (.ireturn, 1) := by decide +kernel
def ML_pile (g : RO) : MT := ((RL, cL_pile, 5, 8, 2, 12, false, some .int), [(13, 6, 0)], [], [], [], [], 0, [(161, 2, 3, 5, 7, (fun _ _ => 2), (fun _ _ => 12), yX1_pile, spOf (MX1_pile g))], [], [], 0, [(0, 11, 14, 19), (0, 11, 18, 28)], [(19, "java/lang/IndexOutOfBoundsException"), (28, "java/lang/IllegalArgumentException")], g)
section
variable {g : RO} {Q : Ot → Hw → Prop} {st : List Value} {w : Hw} {k n p q : Nat} {a b : Int32} {x y : Int64} {u v : Value} {l0 l1 l2 l3 l4 : Option Value}
theorem eL_pile_0 : WP (ML_pile g) Q (0, [l0, l1, l2, some (.ref p), l4], st, w, k, n) = WP (ML_pile g) Q (1, [l0, l1, l2, some (.ref p), l4], .ref p :: st, w, k, n) := Eq.trans (WP_at (M := (ML_pile g)) rfl dL_pile_0 (Or.inr rfl)) rfl
theorem eL_pile_0N : WP (ML_pile g) Q (0, [l0, l1, l2, some .null, l4], st, w, k, n) = WP (ML_pile g) Q (1, [l0, l1, l2, some .null, l4], .null :: st, w, k, n) := Eq.trans (WP_at (M := (ML_pile g)) rfl dL_pile_0 (Or.inr rfl)) rfl
theorem eL_pile_1 : WP (ML_pile g) Q (1, [some (.ref p), l1, l2, l3, l4], st, w, k, n) = WP (ML_pile g) Q (2, [some (.ref p), l1, l2, l3, l4], .ref p :: st, w, k, n) := Eq.trans (WP_at (M := (ML_pile g)) rfl dL_pile_1 (Or.inr rfl)) rfl
theorem eL_pile_1N : WP (ML_pile g) Q (1, [some .null, l1, l2, l3, l4], st, w, k, n) = WP (ML_pile g) Q (2, [some .null, l1, l2, l3, l4], .null :: st, w, k, n) := Eq.trans (WP_at (M := (ML_pile g)) rfl dL_pile_1 (Or.inr rfl)) rfl
theorem eL_pile_2 : WP (ML_pile g) Q (2, [l0, some (.int a), l2, l3, l4], st, w, k, n) = WP (ML_pile g) Q (3, [l0, some (.int a), l2, l3, l4], .int a :: st, w, k, n) := Eq.trans (WP_at (M := (ML_pile g)) rfl dL_pile_2 (Or.inr rfl)) rfl
theorem eL_pile_3 : WP (ML_pile g) Q (3, [l0, l1, some (.int a), l3, l4], st, w, k, n) = WP (ML_pile g) Q (4, [l0, l1, some (.int a), l3, l4], .int a :: st, w, k, n) := Eq.trans (WP_at (M := (ML_pile g)) rfl dL_pile_3 (Or.inr rfl)) rfl
theorem eL_pile_4 {z0 : Int32} {z1 : Int32} : WP (ML_pile g) Q (4, [l0, l1, l2, l3, l4], .int z1 :: .int z0 :: .ref p :: st, w, k, n) = (go (rd g w p) 5 (fun _ => True) ∧ wt st ≤ 8 ∧ k + 2 ≤ 2 ∧ n + 12 ≤ 12 ∧ WP (MX1_pile g) (kx (fun v w' => WP (ML_pile g) Q (7, [l0, l1, l2, l3, l4], v.toList ++ st, w', k + 2, n + 12)) (fun E w' => hgo (ML_pile g) Q (WP (ML_pile g) Q) 4 [l0, l1, l2, l3, l4] E w' (k + 2) (n + 12))) (0, [some (.ref p), some (.int z0), some (.int z1)], [], w, 0, 0)) := csVH (M := (ML_pile g)) (mc := (fun _ _ => 2)) (ms := (fun _ _ => 12)) (As := [.int z0, .int z1]) (rest := st) (MX1_pile g) rfl dL_pile_4 (by exact fun h => nomatch (show (none : Option Nat) = some 11 from h)) (by exact fun h => nomatch (show (none : Option Nat) = some 15 from h)) rfl rfl (by decide) (Nat.le_of_ble_eq_true rfl) (Nat.le_of_ble_eq_true rfl) rfl
theorem eL_pile_7 : WP (ML_pile g) Q (7, [l0, l1, l2, l3, l4], .int a :: st, w, k, n) = WP (ML_pile g) Q (8, [l0, l1, l2, l3, l4], .long a.toInt64 :: st, w, k, n) := Eq.trans (WP_at (M := (ML_pile g)) rfl dL_pile_7 (Or.inr rfl)) rfl
theorem eL_pile_8 : WP (ML_pile g) Q (8, [l0, l1, l2, l3, l4], v :: .ref p :: st, w, k, n) = go (w p) 6 fun fs => 0 < fs.length ∧ (narrow (.long) v = v ∧ fits (.long) v = true) ∧ WP (ML_pile g) Q (11, [l0, l1, l2, l3, l4], st, upw w p (.inr (6, fs.set 0 v)), k, n) := put_e (q := (RX2, TX2, 2)) rfl dL_pile_8 rfl rfl (tyX2_ok 0 (by decide)) (Or.inl rfl)
theorem eL_pile_11 : WP (ML_pile g) Q (11, [l0, l1, l2, l3, l4], st, w, k, n) = WP (ML_pile g) Q (22, [l0, l1, l2, l3, l4], st, w, k, n) := goto_e rfl dL_pile_11 (by decide)
theorem eL_pile_14 : WP (ML_pile g) Q (14, [l0, l1, l2, l3, l4], .ref p :: st, w, k, n) = WP (ML_pile g) Q (16, [l0, l1, l2, nl l3, some (.ref p)], st, w, k, n) := by rw [WP_at (M := (ML_pile g)) rfl dL_pile_14 (Or.inr rfl)]; exact and_t (Nat.le_of_ble_eq_true rfl)
theorem eL_pile_14N : WP (ML_pile g) Q (14, [l0, l1, l2, l3, l4], .null :: st, w, k, n) = WP (ML_pile g) Q (16, [l0, l1, l2, nl l3, some (.null)], st, w, k, n) := by rw [WP_at (M := (ML_pile g)) rfl dL_pile_14 (Or.inr rfl)]; exact and_t (Nat.le_of_ble_eq_true rfl)
theorem eL_pile_16 : WP (ML_pile g) Q (16, [l0, l1, l2, l3, l4], st, w, k, n) = WP (ML_pile g) Q (17, [l0, l1, l2, l3, l4], .int 1 :: st, w, k, n) := iconst_e rfl dL_pile_16 (by decide)
theorem eL_pile_17 : WP (ML_pile g) Q (17, [l0, l1, l2, l3, l4], [.int a], w, k, n) = (k ≤ 2 ∧ n ≤ 12 ∧ Q (.inl (some (.int a))) w) := iretI_e rfl dL_pile_17 rfl
theorem eL_pile_18 : WP (ML_pile g) Q (18, [l0, l1, l2, l3, l4], .ref p :: st, w, k, n) = WP (ML_pile g) Q (20, [l0, l1, l2, nl l3, some (.ref p)], st, w, k, n) := by rw [WP_at (M := (ML_pile g)) rfl dL_pile_18 (Or.inr rfl)]; exact and_t (Nat.le_of_ble_eq_true rfl)
theorem eL_pile_18N : WP (ML_pile g) Q (18, [l0, l1, l2, l3, l4], .null :: st, w, k, n) = WP (ML_pile g) Q (20, [l0, l1, l2, nl l3, some (.null)], st, w, k, n) := by rw [WP_at (M := (ML_pile g)) rfl dL_pile_18 (Or.inr rfl)]; exact and_t (Nat.le_of_ble_eq_true rfl)
theorem eL_pile_20 : WP (ML_pile g) Q (20, [l0, l1, l2, l3, l4], st, w, k, n) = WP (ML_pile g) Q (21, [l0, l1, l2, l3, l4], .int 2 :: st, w, k, n) := iconst_e rfl dL_pile_20 (by decide)
theorem eL_pile_21 : WP (ML_pile g) Q (21, [l0, l1, l2, l3, l4], [.int a], w, k, n) = (k ≤ 2 ∧ n ≤ 12 ∧ Q (.inl (some (.int a))) w) := iretI_e rfl dL_pile_21 rfl
theorem eL_pile_22 : WP (ML_pile g) Q (22, [l0, l1, l2, l3, l4], st, w, k, n) = WP (ML_pile g) Q (23, [l0, l1, l2, l3, l4], .int 0 :: st, w, k, n) := iconst_e rfl dL_pile_22 (by decide)
theorem eL_pile_23 : WP (ML_pile g) Q (23, [l0, l1, l2, l3, l4], [.int a], w, k, n) = (k ≤ 2 ∧ n ≤ 12 ∧ Q (.inl (some (.int a))) w) := iretI_e rfl dL_pile_23 rfl
end
theorem wk_1106 : (.code yX1_pile cX1_pile 3 (some .int) : Jvm.Cond) ∈ WS := WS_at 1106 (by decide +kernel) rfl
theorem wk_1103 : (.methodLink RL 161 yX1_pile : Jvm.Cond) ∈ WS := WS_at 1103 (by decide +kernel) rfl
theorem wk_1104 : (.instanceMethod yX1_pile : Jvm.Cond) ∈ WS := WS_at 1104 (by decide +kernel) rfl
theorem wk_1105 : (.selects RX1 yX1_pile yX1_pile : Jvm.Cond) ∈ WS := WS_at 1105 (by decide +kernel) rfl
theorem vML_pile {l : Launch} (hl : l.stackTraces = false) (G : GT) : vM l G (ML_pile (gg G)) := ⟨fun i c j h => lookup_all (l := (ML_pile (gg G)).fld) (P := fun i e => vFld RL i e.1 e.2) (all_c (vF_RL_13) (all_n)) i (c, j) h, fun i c fs h => lookup_all (l := (ML_pile (gg G)).new) (P := fun i e => vNew RL i e.1 e.2) (all_n) i (c, fs) h, lookup_all (l := (ML_pile (gg G)).anew) (P := fun i e => vANew RL i e) (all_n), lookup_all (l := (ML_pile (gg G)).lng) (P := fun i e => Jvm.Cond.constantLong RL i e ∈ WS) (all_n), lookup_all (l := (ML_pile (gg G)).thr) (P := fun i e => vThr RL cL_pile i e) (all_n), fun h => absurd rfl h, lookup_all (l := (ML_pile (gg G)).cal) (P := fun i e => vCal l G RL i e) (all_c (⟨cX1_pile, 3, some .int, fun y hy => by subst hy; exact ⟨by decide, ⟨_, wk_1106, okX1_pile hl, Or.inl ⟨Nat.ne_of_beq_eq_false rfl, rfl⟩⟩, wk_59, ⟨(by decide : yX1_pile.cls ≠ "java/lang/invoke/MethodHandle"), (by decide : yX1_pile.cls ≠ "java/lang/invoke/VarHandle")⟩, ⟨(by decide +kernel : (parseMethodDescriptor yX1_pile.desc).map (fun d => d.parameters.length + 1) = some 3), wk_1103, wk_1104, wk_1105, (RX1, TX1, 7), rfl, rfl⟩⟩⟩) (all_n)), lookup_all (l := (ML_pile (gg G)).stt) (P := fun i e => vStt G RL i e) (all_n), lookup_all (l := (ML_pile (gg G)).cst) (P := fun i e => vCst RL i e) (all_n), fun h => absurd rfl h, rfl, all_c (⟨"java/lang/IndexOutOfBoundsException", by decide, rfl, by decide, wk_348⟩) (all_c (⟨"java/lang/IllegalArgumentException", by decide, rfl, by decide, wk_435⟩) (all_n))⟩
theorem okL_pile {l : Launch} (hl : l.stackTraces = false) {G : GT} : ∀ (args : List Value) (w : Hw) (S : Ot → Hw → Prop), spOf (ML_pile (gg G)) args w S → CX l G yL_pile (.codeWith yL_pile cL_pile 5 (some .int) [(0, 11, 14, 19), (0, 11, 18, 28)]) 8 2 12 args w S := CX_spH (M := ML_pile (gg G)) (y := yL_pile) hl (by decide) rfl (vML_pile hl G) (fun h => by cases h)
/-! RangecardLaw.house(LRangecard;ILRangecardLaw$Out;)I -/
theorem dL_house_0 : decode cL_house 0 = .ok (.aload_n 2, 1) := by decide +kernel
theorem dL_house_1 : decode cL_house 1 = .ok (.aload_n 0, 1) := by decide +kernel
theorem dL_house_2 : decode cL_house 2 = .ok (.iload_n 1, 1) := by decide +kernel
theorem dL_house_3 : decode cL_house 3 = .ok (.invokevirtual 164, 3) := by decide +kernel
theorem dL_house_6 : decode cL_house 6 = .ok (.i2l, 1) := by decide +kernel
theorem dL_house_7 : decode cL_house 7 = .ok (.putfield 13, 3) := by decide +kernel
theorem dL_house_10 : decode cL_house 10 = .ok (.goto 6, 3) := by decide +kernel
theorem dL_house_13 : decode cL_house 13 = .ok (.astore_n 3, 1) := by decide +kernel
theorem dL_house_14 : decode cL_house 14 = .ok (.iconst 1, 1) := by decide +kernel
theorem dL_house_15 : decode cL_house 15 = .ok (.ireturn, 1) := by decide +kernel
theorem dL_house_16 : decode cL_house 16 = .ok (.iconst 0, 1) := by decide +kernel
theorem dL_house_17 : decode cL_house 17 = .ok (.ireturn, 1) := by decide +kernel
def ML_house (g : RO) : MT := ((RL, cL_house, 4, 8, 1, 6, false, some .int), [(13, 6, 0)], [], [], [], [], 0, [(164, 2, 2, 5, 7, (fun _ _ => 1), (fun _ _ => 6), yX1_house, spOf (MX1_house g))], [], [], 0, [(0, 10, 13, 28)], [(28, "java/lang/IllegalArgumentException")], g)
section
variable {g : RO} {Q : Ot → Hw → Prop} {st : List Value} {w : Hw} {k n p q : Nat} {a b : Int32} {x y : Int64} {u v : Value} {l0 l1 l2 l3 : Option Value}
theorem eL_house_0 : WP (ML_house g) Q (0, [l0, l1, some (.ref p), l3], st, w, k, n) = WP (ML_house g) Q (1, [l0, l1, some (.ref p), l3], .ref p :: st, w, k, n) := Eq.trans (WP_at (M := (ML_house g)) rfl dL_house_0 (Or.inr rfl)) rfl
theorem eL_house_0N : WP (ML_house g) Q (0, [l0, l1, some .null, l3], st, w, k, n) = WP (ML_house g) Q (1, [l0, l1, some .null, l3], .null :: st, w, k, n) := Eq.trans (WP_at (M := (ML_house g)) rfl dL_house_0 (Or.inr rfl)) rfl
theorem eL_house_1 : WP (ML_house g) Q (1, [some (.ref p), l1, l2, l3], st, w, k, n) = WP (ML_house g) Q (2, [some (.ref p), l1, l2, l3], .ref p :: st, w, k, n) := Eq.trans (WP_at (M := (ML_house g)) rfl dL_house_1 (Or.inr rfl)) rfl
theorem eL_house_1N : WP (ML_house g) Q (1, [some .null, l1, l2, l3], st, w, k, n) = WP (ML_house g) Q (2, [some .null, l1, l2, l3], .null :: st, w, k, n) := Eq.trans (WP_at (M := (ML_house g)) rfl dL_house_1 (Or.inr rfl)) rfl
theorem eL_house_2 : WP (ML_house g) Q (2, [l0, some (.int a), l2, l3], st, w, k, n) = WP (ML_house g) Q (3, [l0, some (.int a), l2, l3], .int a :: st, w, k, n) := Eq.trans (WP_at (M := (ML_house g)) rfl dL_house_2 (Or.inr rfl)) rfl
theorem eL_house_3 {z0 : Int32} : WP (ML_house g) Q (3, [l0, l1, l2, l3], .int z0 :: .ref p :: st, w, k, n) = (go (rd g w p) 5 (fun _ => True) ∧ wt st ≤ 8 ∧ k + 1 ≤ 1 ∧ n + 6 ≤ 6 ∧ WP (MX1_house g) (kx (fun v w' => WP (ML_house g) Q (6, [l0, l1, l2, l3], v.toList ++ st, w', k + 1, n + 6)) (fun E w' => hgo (ML_house g) Q (WP (ML_house g) Q) 3 [l0, l1, l2, l3] E w' (k + 1) (n + 6))) (0, [some (.ref p), some (.int z0)], [], w, 0, 0)) := csVH (M := (ML_house g)) (mc := (fun _ _ => 1)) (ms := (fun _ _ => 6)) (As := [.int z0]) (rest := st) (MX1_house g) rfl dL_house_3 (by exact fun h => nomatch (show (none : Option Nat) = some 11 from h)) (by exact fun h => nomatch (show (none : Option Nat) = some 15 from h)) rfl rfl (by decide) (Nat.le_of_ble_eq_true rfl) (Nat.le_of_ble_eq_true rfl) rfl
theorem eL_house_6 : WP (ML_house g) Q (6, [l0, l1, l2, l3], .int a :: st, w, k, n) = WP (ML_house g) Q (7, [l0, l1, l2, l3], .long a.toInt64 :: st, w, k, n) := Eq.trans (WP_at (M := (ML_house g)) rfl dL_house_6 (Or.inr rfl)) rfl
theorem eL_house_7 : WP (ML_house g) Q (7, [l0, l1, l2, l3], v :: .ref p :: st, w, k, n) = go (w p) 6 fun fs => 0 < fs.length ∧ (narrow (.long) v = v ∧ fits (.long) v = true) ∧ WP (ML_house g) Q (10, [l0, l1, l2, l3], st, upw w p (.inr (6, fs.set 0 v)), k, n) := put_e (q := (RX2, TX2, 2)) rfl dL_house_7 rfl rfl (tyX2_ok 0 (by decide)) (Or.inl rfl)
theorem eL_house_10 : WP (ML_house g) Q (10, [l0, l1, l2, l3], st, w, k, n) = WP (ML_house g) Q (16, [l0, l1, l2, l3], st, w, k, n) := goto_e rfl dL_house_10 (by decide)
theorem eL_house_13 : WP (ML_house g) Q (13, [l0, l1, l2, l3], .ref p :: st, w, k, n) = WP (ML_house g) Q (14, [l0, l1, nl l2, some (.ref p)], st, w, k, n) := by rw [WP_at (M := (ML_house g)) rfl dL_house_13 (Or.inr rfl)]; exact and_t (Nat.le_of_ble_eq_true rfl)
theorem eL_house_13N : WP (ML_house g) Q (13, [l0, l1, l2, l3], .null :: st, w, k, n) = WP (ML_house g) Q (14, [l0, l1, nl l2, some (.null)], st, w, k, n) := by rw [WP_at (M := (ML_house g)) rfl dL_house_13 (Or.inr rfl)]; exact and_t (Nat.le_of_ble_eq_true rfl)
theorem eL_house_14 : WP (ML_house g) Q (14, [l0, l1, l2, l3], st, w, k, n) = WP (ML_house g) Q (15, [l0, l1, l2, l3], .int 1 :: st, w, k, n) := iconst_e rfl dL_house_14 (by decide)
theorem eL_house_15 : WP (ML_house g) Q (15, [l0, l1, l2, l3], [.int a], w, k, n) = (k ≤ 1 ∧ n ≤ 6 ∧ Q (.inl (some (.int a))) w) := iretI_e rfl dL_house_15 rfl
theorem eL_house_16 : WP (ML_house g) Q (16, [l0, l1, l2, l3], st, w, k, n) = WP (ML_house g) Q (17, [l0, l1, l2, l3], .int 0 :: st, w, k, n) := iconst_e rfl dL_house_16 (by decide)
theorem eL_house_17 : WP (ML_house g) Q (17, [l0, l1, l2, l3], [.int a], w, k, n) = (k ≤ 1 ∧ n ≤ 6 ∧ Q (.inl (some (.int a))) w) := iretI_e rfl dL_house_17 rfl
end
theorem wk_1113 : (.code yX1_house cX1_house 2 (some .int) : Jvm.Cond) ∈ WS := WS_at 1113 (by decide +kernel) rfl
theorem wk_1110 : (.methodLink RL 164 yX1_house : Jvm.Cond) ∈ WS := WS_at 1110 (by decide +kernel) rfl
theorem wk_1111 : (.instanceMethod yX1_house : Jvm.Cond) ∈ WS := WS_at 1111 (by decide +kernel) rfl
theorem wk_1112 : (.selects RX1 yX1_house yX1_house : Jvm.Cond) ∈ WS := WS_at 1112 (by decide +kernel) rfl
theorem vML_house {l : Launch} (hl : l.stackTraces = false) (G : GT) : vM l G (ML_house (gg G)) := ⟨fun i c j h => lookup_all (l := (ML_house (gg G)).fld) (P := fun i e => vFld RL i e.1 e.2) (all_c (vF_RL_13) (all_n)) i (c, j) h, fun i c fs h => lookup_all (l := (ML_house (gg G)).new) (P := fun i e => vNew RL i e.1 e.2) (all_n) i (c, fs) h, lookup_all (l := (ML_house (gg G)).anew) (P := fun i e => vANew RL i e) (all_n), lookup_all (l := (ML_house (gg G)).lng) (P := fun i e => Jvm.Cond.constantLong RL i e ∈ WS) (all_n), lookup_all (l := (ML_house (gg G)).thr) (P := fun i e => vThr RL cL_house i e) (all_n), fun h => absurd rfl h, lookup_all (l := (ML_house (gg G)).cal) (P := fun i e => vCal l G RL i e) (all_c (⟨cX1_house, 2, some .int, fun y hy => by subst hy; exact ⟨by decide, ⟨_, wk_1113, okX1_house hl, Or.inl ⟨Nat.ne_of_beq_eq_false rfl, rfl⟩⟩, wk_59, ⟨(by decide : yX1_house.cls ≠ "java/lang/invoke/MethodHandle"), (by decide : yX1_house.cls ≠ "java/lang/invoke/VarHandle")⟩, ⟨(by decide +kernel : (parseMethodDescriptor yX1_house.desc).map (fun d => d.parameters.length + 1) = some 2), wk_1110, wk_1111, wk_1112, (RX1, TX1, 7), rfl, rfl⟩⟩⟩) (all_n)), lookup_all (l := (ML_house (gg G)).stt) (P := fun i e => vStt G RL i e) (all_n), lookup_all (l := (ML_house (gg G)).cst) (P := fun i e => vCst RL i e) (all_n), fun h => absurd rfl h, rfl, all_c (⟨"java/lang/IllegalArgumentException", by decide, rfl, by decide, wk_435⟩) (all_n)⟩
theorem okL_house {l : Launch} (hl : l.stackTraces = false) {G : GT} : ∀ (args : List Value) (w : Hw) (S : Ot → Hw → Prop), spOf (ML_house (gg G)) args w S → CX l G yL_house (.codeWith yL_house cL_house 4 (some .int) [(0, 10, 13, 28)]) 8 1 6 args w S := CX_spH (M := ML_house (gg G)) (y := yL_house) hl (by decide) rfl (vML_house hl G) (fun h => by cases h)
