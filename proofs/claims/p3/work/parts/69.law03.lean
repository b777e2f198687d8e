/-! RangecardLaw.inner(LRangecard;IILRangecardLaw$Out;)I -/
theorem dL_inner_0 : decode cL_inner 0 = .ok (.aload_n 3, 1) := by decide +kernel
theorem dL_inner_1 : decode cL_inner 1 = .ok (.aload_n 0, 1) := by decide +kernel
theorem dL_inner_2 : decode cL_inner 2 = .ok (.iload_n 1, 1) := by decide +kernel
theorem dL_inner_3 : decode cL_inner 3 = .ok (.iload_n 2, 1) := by decide +kernel
theorem dL_inner_4 : decode cL_inner 4 = .ok (.invokevirtual 82, 3) := by decide +kernel
theorem dL_inner_7 : decode cL_inner 7 = .ok (.i2l, 1) := by decide +kernel
theorem dL_inner_8 : decode cL_inner 8 = .ok (.putfield 13, 3) := by decide +kernel
theorem dL_inner_11 : decode cL_inner 11 = .ok (.goto 11, 3) := by decide +kernel
theorem dL_inner_14 : decode cL_inner 14 = .ok (.astore 4, 2) := by decide +kernel
theorem dL_inner_16 : decode cL_inner 16 = .ok (.iconst 1, 1) := by decide +kernel
theorem dL_inner_17 : decode cL_inner 17 = .ok (.ireturn, 1) := by decide +kernel
theorem dL_inner_18 : decode cL_inner 18 = .ok (.astore 4, 2) := by decide +kernel
theorem dL_inner_20 : decode cL_inner 20 = .ok (.iconst 2, 1) := by decide +kernel
theorem dL_inner_21 : decode cL_inner 21 = .ok (.ireturn, 1) := by decide +kernel
theorem dL_inner_22 : decode cL_inner 22 = .ok (.iconst 0, 1) := by decide +kernel
theorem dL_inner_23 : decode cL_inner 23 = .ok (.ireturn, 1) := by decide +kernel
def ML_inner (g : RO) : MT := ((RL, cL_inner, 5, 9, 4, 22, false, some .int), [(13, 6, 0)], [], [], [], [], 0, [(82, 2, 3, 5, 8, (fun _ _ => 4), (fun _ _ => 22), yX1_inner, spOf (MX1_inner g))], [], [], 0, [(0, 11, 14, 19), (0, 11, 18, 74)], [(19, "java/lang/IndexOutOfBoundsException"), (74, "java/lang/IllegalStateException")], g)
section
variable {g : RO} {Q : Ot → Hw → Prop} {st : List Value} {w : Hw} {k n p q : Nat} {a b : Int32} {x y : Int64} {u v : Value} {l0 l1 l2 l3 l4 : Option Value}
theorem eL_inner_0 : WP (ML_inner g) Q (0, [l0, l1, l2, some (.ref p), l4], st, w, k, n) = WP (ML_inner g) Q (1, [l0, l1, l2, some (.ref p), l4], .ref p :: st, w, k, n) := Eq.trans (WP_at (M := (ML_inner g)) rfl dL_inner_0 (Or.inr rfl)) rfl
theorem eL_inner_0N : WP (ML_inner g) Q (0, [l0, l1, l2, some .null, l4], st, w, k, n) = WP (ML_inner g) Q (1, [l0, l1, l2, some .null, l4], .null :: st, w, k, n) := Eq.trans (WP_at (M := (ML_inner g)) rfl dL_inner_0 (Or.inr rfl)) rfl
theorem eL_inner_1 : WP (ML_inner g) Q (1, [some (.ref p), l1, l2, l3, l4], st, w, k, n) = WP (ML_inner g) Q (2, [some (.ref p), l1, l2, l3, l4], .ref p :: st, w, k, n) := Eq.trans (WP_at (M := (ML_inner g)) rfl dL_inner_1 (Or.inr rfl)) rfl
theorem eL_inner_1N : WP (ML_inner g) Q (1, [some .null, l1, l2, l3, l4], st, w, k, n) = WP (ML_inner g) Q (2, [some .null, l1, l2, l3, l4], .null :: st, w, k, n) := Eq.trans (WP_at (M := (ML_inner g)) rfl dL_inner_1 (Or.inr rfl)) rfl
theorem eL_inner_2 : WP (ML_inner g) Q (2, [l0, some (.int a), l2, l3, l4], st, w, k, n) = WP (ML_inner g) Q (3, [l0, some (.int a), l2, l3, l4], .int a :: st, w, k, n) := Eq.trans (WP_at (M := (ML_inner g)) rfl dL_inner_2 (Or.inr rfl)) rfl
theorem eL_inner_3 : WP (ML_inner g) Q (3, [l0, l1, some (.int a), l3, l4], st, w, k, n) = WP (ML_inner g) Q (4, [l0, l1, some (.int a), l3, l4], .int a :: st, w, k, n) := Eq.trans (WP_at (M := (ML_inner g)) rfl dL_inner_3 (Or.inr rfl)) rfl
theorem eL_inner_4 {z0 : Int32} {z1 : Int32} : WP (ML_inner g) Q (4, [l0, l1, l2, l3, l4], .int z1 :: .int z0 :: .ref p :: st, w, k, n) = (go (rd g w p) 5 (fun _ => True) ∧ wt st ≤ 8 ∧ k + 4 ≤ 4 ∧ n + 22 ≤ 22 ∧ WP (MX1_inner g) (kx (fun v w' => WP (ML_inner g) Q (7, [l0, l1, l2, l3, l4], v.toList ++ st, w', k + 4, n + 22)) (fun E w' => hgo (ML_inner g) Q (WP (ML_inner g) Q) 4 [l0, l1, l2, l3, l4] E w' (k + 4) (n + 22))) (0, [some (.ref p), some (.int z0), some (.int z1), none], [], w, 0, 0)) := csVH (M := (ML_inner g)) (mc := (fun _ _ => 4)) (ms := (fun _ _ => 22)) (As := [.int z0, .int z1]) (rest := st) (MX1_inner g) rfl dL_inner_4 (by exact fun h => nomatch (show (none : Option Nat) = some 11 from h)) (by exact fun h => nomatch (show (none : Option Nat) = some 15 from h)) rfl rfl (by decide) (Nat.le_of_ble_eq_true rfl) (Nat.le_of_ble_eq_true rfl) rfl
theorem eL_inner_7 : WP (ML_inner g) Q (7, [l0, l1, l2, l3, l4], .int a :: st, w, k, n) = WP (ML_inner g) Q (8, [l0, l1, l2, l3, l4], .long a.toInt64 :: st, w, k, n) := Eq.trans (WP_at (M := (ML_inner g)) rfl dL_inner_7 (Or.inr rfl)) rfl
theorem eL_inner_8 : WP (ML_inner g) Q (8, [l0, l1, l2, l3, l4], v :: .ref p :: st, w, k, n) = go (w p) 6 fun fs => 0 < fs.length ∧ (narrow (.long) v = v ∧ fits (.long) v = true) ∧ WP (ML_inner g) Q (11, [l0, l1, l2, l3, l4], st, upw w p (.inr (6, fs.set 0 v)), k, n) := put_e (q := (RX2, TX2, 2)) rfl dL_inner_8 rfl rfl (tyX2_ok 0 (by decide)) (Or.inl rfl)
theorem eL_inner_11 : WP (ML_inner g) Q (11, [l0, l1, l2, l3, l4], st, w, k, n) = WP (ML_inner g) Q (22, [l0, l1, l2, l3, l4], st, w, k, n) := goto_e rfl dL_inner_11 (by decide)
theorem eL_inner_14 : WP (ML_inner g) Q (14, [l0, l1, l2, l3, l4], .ref p :: st, w, k, n) = WP (ML_inner g) Q (16, [l0, l1, l2, nl l3, some (.ref p)], st, w, k, n) := by rw [WP_at (M := (ML_inner g)) rfl dL_inner_14 (Or.inr rfl)]; exact and_t (Nat.le_of_ble_eq_true rfl)
theorem eL_inner_14N : WP (ML_inner g) Q (14, [l0, l1, l2, l3, l4], .null :: st, w, k, n) = WP (ML_inner g) Q (16, [l0, l1, l2, nl l3, some (.null)], st, w, k, n) := by rw [WP_at (M := (ML_inner g)) rfl dL_inner_14 (Or.inr rfl)]; exact and_t (Nat.le_of_ble_eq_true rfl)
theorem eL_inner_16 : WP (ML_inner g) Q (16, [l0, l1, l2, l3, l4], st, w, k, n) = WP (ML_inner g) Q (17, [l0, l1, l2, l3, l4], .int 1 :: st, w, k, n) := iconst_e rfl dL_inner_16 (by decide)
theorem eL_inner_17 : WP (ML_inner g) Q (17, [l0, l1, l2, l3, l4], [.int a], w, k, n) = (k ≤ 4 ∧ n ≤ 22 ∧ Q (.inl (some (.int a))) w) := iretI_e rfl dL_inner_17 rfl
theorem eL_inner_18 : WP (ML_inner g) Q (18, [l0, l1, l2, l3, l4], .ref p :: st, w, k, n) = WP (ML_inner g) Q (20, [l0, l1, l2, nl l3, some (.ref p)], st, w, k, n) := by rw [WP_at (M := (ML_inner g)) rfl dL_inner_18 (Or.inr rfl)]; exact and_t (Nat.le_of_ble_eq_true rfl)
theorem eL_inner_18N : WP (ML_inner g) Q (18, [l0, l1, l2, l3, l4], .null :: st, w, k, n) = WP (ML_inner g) Q (20, [l0, l1, l2, nl l3, some (.null)], st, w, k, n) := by rw [WP_at (M := (ML_inner g)) rfl dL_inner_18 (Or.inr rfl)]; exact and_t (Nat.le_of_ble_eq_true rfl)
theorem eL_inner_20 : WP (ML_inner g) Q (20, [l0, l1, l2, l3, l4], st, w, k, n) = WP (ML_inner g) Q (21, [l0, l1, l2, l3, l4], .int 2 :: st, w, k, n) := iconst_e rfl dL_inner_20 (by decide)
theorem eL_inner_21 : WP (ML_inner g) Q (21, [l0, l1, l2, l3, l4], [.int a], w, k, n) = (k ≤ 4 ∧ n ≤ 22 ∧ Q (.inl (some (.int a))) w) := iretI_e rfl dL_inner_21 rfl
theorem eL_inner_22 : WP (ML_inner g) Q (22, [l0, l1, l2, l3, l4], st, w, k, n) = WP (ML_inner g) Q (23, [l0, l1, l2, l3, l4], .int 0 :: st, w, k, n) := iconst_e rfl dL_inner_22 (by decide)
theorem eL_inner_23 : WP (ML_inner g) Q (23, [l0, l1, l2, l3, l4], [.int a], w, k, n) = (k ≤ 4 ∧ n ≤ 22 ∧ Q (.inl (some (.int a))) w) := iretI_e rfl dL_inner_23 rfl
end
theorem wk_920 : (.code yX1_inner cX1_inner 4 (some .int) : Jvm.Cond) ∈ WS := WS_at 920 (by decide +kernel) rfl
theorem wk_917 : (.methodLink RL 82 yX1_inner : Jvm.Cond) ∈ WS := WS_at 917 (by decide +kernel) rfl
theorem wk_918 : (.instanceMethod yX1_inner : Jvm.Cond) ∈ WS := WS_at 918 (by decide +kernel) rfl
theorem wk_919 : (.selects RX1 yX1_inner yX1_inner : Jvm.Cond) ∈ WS := WS_at 919 (by decide +kernel) rfl
theorem vML_inner {l : Launch} (hl : l.stackTraces = false) (G : GT) : vM l G (ML_inner (gg G)) := ⟨fun i c j h => lookup_all (l := (ML_inner (gg G)).fld) (P := fun i e => vFld RL i e.1 e.2) (all_c (vF_RL_13) (all_n)) i (c, j) h, fun i c fs h => lookup_all (l := (ML_inner (gg G)).new) (P := fun i e => vNew RL i e.1 e.2) (all_n) i (c, fs) h, lookup_all (l := (ML_inner (gg G)).anew) (P := fun i e => vANew RL i e) (all_n), lookup_all (l := (ML_inner (gg G)).lng) (P := fun i e => Jvm.Cond.constantLong RL i e ∈ WS) (all_n), lookup_all (l := (ML_inner (gg G)).thr) (P := fun i e => vThr RL cL_inner i e) (all_n), fun h => absurd rfl h, lookup_all (l := (ML_inner (gg G)).cal) (P := fun i e => vCal l G RL i e) (all_c (⟨cX1_inner, 4, some .int, fun y hy => by subst hy; exact ⟨by decide, ⟨_, wk_920, okX1_inner hl, Or.inl ⟨Nat.ne_of_beq_eq_false rfl, rfl⟩⟩, wk_59, ⟨(by decide : yX1_inner.cls ≠ "java/lang/invoke/MethodHandle"), (by decide : yX1_inner.cls ≠ "java/lang/invoke/VarHandle")⟩, ⟨(by decide +kernel : (parseMethodDescriptor yX1_inner.desc).map (fun d => d.parameters.length + 1) = some 3), wk_917, wk_918, wk_919, (RX1, TX1, 7), rfl, rfl⟩⟩⟩) (all_n)), lookup_all (l := (ML_inner (gg G)).stt) (P := fun i e => vStt G RL i e) (all_n), lookup_all (l := (ML_inner (gg G)).cst) (P := fun i e => vCst RL i e) (all_n), fun h => absurd rfl h, rfl, all_c (⟨"java/lang/IndexOutOfBoundsException", by decide, rfl, by decide, wk_348⟩) (all_c (⟨"java/lang/IllegalStateException", by decide, rfl, by decide, wk_869⟩) (all_n))⟩
theorem okL_inner {l : Launch} (hl : l.stackTraces = false) {G : GT} : ∀ (args : List Value) (w : Hw) (S : Ot → Hw → Prop), spOf (ML_inner (gg G)) args w S → CX l G yL_inner (.codeWith yL_inner cL_inner 5 (some .int) [(0, 11, 14, 19), (0, 11, 18, 74)]) 9 4 22 args w S := CX_spH (M := ML_inner (gg G)) (y := yL_inner) hl (by decide) rfl (vML_inner hl G) (fun h => by cases h)
/-! RangecardLaw.span(LRangecard;IIILRangecardLaw$Out;)I -/
theorem dL_span_0 : decode cL_span 0 = .ok (.aload 4, 2) := by decide +kernel
theorem dL_span_2 : decode cL_span 2 = .ok (.aload_n 0, 1) := by decide +kernel
theorem dL_span_3 : decode cL_span 3 = .ok (.iload_n 1, 1) := by decide +kernel
theorem dL_span_4 : decode cL_span 4 = .ok (.iload_n 2, 1) := by decide +kernel
theorem dL_span_5 : decode cL_span 5 = .ok (.iload_n 3, 1) := by decide +kernel
theorem dL_span_6 : decode cL_span 6 = .ok (.invokevirtual 85, 3) := by decide +kernel
theorem dL_span_9 : decode cL_span 9 = .ok (.i2l, 1) := by decide +kernel
theorem dL_span_10 : decode cL_span 10 = .ok (.putfield 13, 3) := by decide +kernel
theorem dL_span_13 : decode cL_span 13 = .ok (.goto 11, 3) := by decide +kernel
theorem dL_span_16 : decode cL_span 16 = .ok (.astore 5, 2) := by decide +kernel
theorem dL_span_18 : decode cL_span 18 = .ok (.iconst 1, 1) := by decide +kernel
theorem dL_span_19 : decode cL_span 19 = .ok (.ireturn, 1) := by decide +kernel
theorem dL_span_20 : decode cL_span 20 = .ok (.astore 5, 2) := by decide +kernel
theorem dL_span_22 : decode cL_span 22 = .ok (.iconst 2, 1) := by decide +kernel
theorem dL_span_23 : decode cL_span 23 = .ok (.ireturn, 1) := by decide +kernel
theorem dL_span_24 : decode cL_span 24 = .ok (.iconst 0, 1) := by decide +kernel
theorem dL_span_25 : decode cL_span 25 = .ok (.ireturn, 1) := by decide +kernel
def ML_span (g : RO) : MT := ((RL, cL_span, 6, 9, 8, 46, false, some .int), [(13, 6, 0)], [], [], [], [], 0, [(85, 2, 4, 5, 8, (fun _ _ => 8), (fun _ _ => 46), yX1_span, spOf (MX1_span g))], [], [], 0, [(0, 13, 16, 19), (0, 13, 20, 74)], [(19, "java/lang/IndexOutOfBoundsException"), (74, "java/lang/IllegalStateException")], g)
section
variable {g : RO} {Q : Ot → Hw → Prop} {st : List Value} {w : Hw} {k n p q : Nat} {a b : Int32} {x y : Int64} {u v : Value} {l0 l1 l2 l3 l4 l5 : Option Value}
theorem eL_span_0 : WP (ML_span g) Q (0, [l0, l1, l2, l3, some (.ref p), l5], st, w, k, n) = WP (ML_span g) Q (2, [l0, l1, l2, l3, some (.ref p), l5], .ref p :: st, w, k, n) := Eq.trans (WP_at (M := (ML_span g)) rfl dL_span_0 (Or.inr rfl)) rfl
theorem eL_span_0N : WP (ML_span g) Q (0, [l0, l1, l2, l3, some .null, l5], st, w, k, n) = WP (ML_span g) Q (2, [l0, l1, l2, l3, some .null, l5], .null :: st, w, k, n) := Eq.trans (WP_at (M := (ML_span g)) rfl dL_span_0 (Or.inr rfl)) rfl
theorem eL_span_2 : WP (ML_span g) Q (2, [some (.ref p), l1, l2, l3, l4, l5], st, w, k, n) = WP (ML_span g) Q (3, [some (.ref p), l1, l2, l3, l4, l5], .ref p :: st, w, k, n) := Eq.trans (WP_at (M := (ML_span g)) rfl dL_span_2 (Or.inr rfl)) rfl
theorem eL_span_2N : WP (ML_span g) Q (2, [some .null, l1, l2, l3, l4, l5], st, w, k, n) = WP (ML_span g) Q (3, [some .null, l1, l2, l3, l4, l5], .null :: st, w, k, n) := Eq.trans (WP_at (M := (ML_span g)) rfl dL_span_2 (Or.inr rfl)) rfl
theorem eL_span_3 : WP (ML_span g) Q (3, [l0, some (.int a), l2, l3, l4, l5], st, w, k, n) = WP (ML_span g) Q (4, [l0, some (.int a), l2, l3, l4, l5], .int a :: st, w, k, n) := Eq.trans (WP_at (M := (ML_span g)) rfl dL_span_3 (Or.inr rfl)) rfl
theorem eL_span_4 : WP (ML_span g) Q (4, [l0, l1, some (.int a), l3, l4, l5], st, w, k, n) = WP (ML_span g) Q (5, [l0, l1, some (.int a), l3, l4, l5], .int a :: st, w, k, n) := Eq.trans (WP_at (M := (ML_span g)) rfl dL_span_4 (Or.inr rfl)) rfl
theorem eL_span_5 : WP (ML_span g) Q (5, [l0, l1, l2, some (.int a), l4, l5], st, w, k, n) = WP (ML_span g) Q (6, [l0, l1, l2, some (.int a), l4, l5], .int a :: st, w, k, n) := Eq.trans (WP_at (M := (ML_span g)) rfl dL_span_5 (Or.inr rfl)) rfl
theorem eL_span_6 {z0 : Int32} {z1 : Int32} {z2 : Int32} : WP (ML_span g) Q (6, [l0, l1, l2, l3, l4, l5], .int z2 :: .int z1 :: .int z0 :: .ref p :: st, w, k, n) = (go (rd g w p) 5 (fun _ => True) ∧ wt st ≤ 8 ∧ k + 8 ≤ 8 ∧ n + 46 ≤ 46 ∧ WP (MX1_span g) (kx (fun v w' => WP (ML_span g) Q (9, [l0, l1, l2, l3, l4, l5], v.toList ++ st, w', k + 8, n + 46)) (fun E w' => hgo (ML_span g) Q (WP (ML_span g) Q) 6 [l0, l1, l2, l3, l4, l5] E w' (k + 8) (n + 46))) (0, [some (.ref p), some (.int z0), some (.int z1), some (.int z2), none, none], [], w, 0, 0)) := csVH (M := (ML_span g)) (mc := (fun _ _ => 8)) (ms := (fun _ _ => 46)) (As := [.int z0, .int z1, .int z2]) (rest := st) (MX1_span g) rfl dL_span_6 (by exact fun h => nomatch (show (none : Option Nat) = some 11 from h)) (by exact fun h => nomatch (show (none : Option Nat) = some 15 from h)) rfl rfl (by decide) (Nat.le_of_ble_eq_true rfl) (Nat.le_of_ble_eq_true rfl) rfl
theorem eL_span_9 : WP (ML_span g) Q (9, [l0, l1, l2, l3, l4, l5], .int a :: st, w, k, n) = WP (ML_span g) Q (10, [l0, l1, l2, l3, l4, l5], .long a.toInt64 :: st, w, k, n) := Eq.trans (WP_at (M := (ML_span g)) rfl dL_span_9 (Or.inr rfl)) rfl
theorem eL_span_10 : WP (ML_span g) Q (10, [l0, l1, l2, l3, l4, l5], v :: .ref p :: st, w, k, n) = go (w p) 6 fun fs => 0 < fs.length ∧ (narrow (.long) v = v ∧ fits (.long) v = true) ∧ WP (ML_span g) Q (13, [l0, l1, l2, l3, l4, l5], st, upw w p (.inr (6, fs.set 0 v)), k, n) := put_e (q := (RX2, TX2, 2)) rfl dL_span_10 rfl rfl (tyX2_ok 0 (by decide)) (Or.inl rfl)
theorem eL_span_13 : WP (ML_span g) Q (13, [l0, l1, l2, l3, l4, l5], st, w, k, n) = WP (ML_span g) Q (24, [l0, l1, l2, l3, l4, l5], st, w, k, n) := goto_e rfl dL_span_13 (by decide)
theorem eL_span_16 : WP (ML_span g) Q (16, [l0, l1, l2, l3, l4, l5], .ref p :: st, w, k, n) = WP (ML_span g) Q (18, [l0, l1, l2, l3, nl l4, some (.ref p)], st, w, k, n) := by rw [WP_at (M := (ML_span g)) rfl dL_span_16 (Or.inr rfl)]; exact and_t (Nat.le_of_ble_eq_true rfl)
theorem eL_span_16N : WP (ML_span g) Q (16, [l0, l1, l2, l3, l4, l5], .null :: st, w, k, n) = WP (ML_span g) Q (18, [l0, l1, l2, l3, nl l4, some (.null)], st, w, k, n) := by rw [WP_at (M := (ML_span g)) rfl dL_span_16 (Or.inr rfl)]; exact and_t (Nat.le_of_ble_eq_true rfl)
theorem eL_span_18 : WP (ML_span g) Q (18, [l0, l1, l2, l3, l4, l5], st, w, k, n) = WP (ML_span g) Q (19, [l0, l1, l2, l3, l4, l5], .int 1 :: st, w, k, n) := iconst_e rfl dL_span_18 (by decide)
theorem eL_span_19 : WP (ML_span g) Q (19, [l0, l1, l2, l3, l4, l5], [.int a], w, k, n) = (k ≤ 8 ∧ n ≤ 46 ∧ Q (.inl (some (.int a))) w) := iretI_e rfl dL_span_19 rfl
theorem eL_span_20 : WP (ML_span g) Q (20, [l0, l1, l2, l3, l4, l5], .ref p :: st, w, k, n) = WP (ML_span g) Q (22, [l0, l1, l2, l3, nl l4, some (.ref p)], st, w, k, n) := by rw [WP_at (M := (ML_span g)) rfl dL_span_20 (Or.inr rfl)]; exact and_t (Nat.le_of_ble_eq_true rfl)
theorem eL_span_20N : WP (ML_span g) Q (20, [l0, l1, l2, l3, l4, l5], .null :: st, w, k, n) = WP (ML_span g) Q (22, [l0, l1, l2, l3, nl l4, some (.null)], st, w, k, n) := by rw [WP_at (M := (ML_span g)) rfl dL_span_20 (Or.inr rfl)]; exact and_t (Nat.le_of_ble_eq_true rfl)
theorem eL_span_22 : WP (ML_span g) Q (22, [l0, l1, l2, l3, l4, l5], st, w, k, n) = WP (ML_span g) Q (23, [l0, l1, l2, l3, l4, l5], .int 2 :: st, w, k, n) := iconst_e rfl dL_span_22 (by decide)
theorem eL_span_23 : WP (ML_span g) Q (23, [l0, l1, l2, l3, l4, l5], [.int a], w, k, n) = (k ≤ 8 ∧ n ≤ 46 ∧ Q (.inl (some (.int a))) w) := iretI_e rfl dL_span_23 rfl
theorem eL_span_24 : WP (ML_span g) Q (24, [l0, l1, l2, l3, l4, l5], st, w, k, n) = WP (ML_span g) Q (25, [l0, l1, l2, l3, l4, l5], .int 0 :: st, w, k, n) := iconst_e rfl dL_span_24 (by decide)
theorem eL_span_25 : WP (ML_span g) Q (25, [l0, l1, l2, l3, l4, l5], [.int a], w, k, n) = (k ≤ 8 ∧ n ≤ 46 ∧ Q (.inl (some (.int a))) w) := iretI_e rfl dL_span_25 rfl
end
theorem wk_927 : (.code yX1_span cX1_span 6 (some .int) : Jvm.Cond) ∈ WS := WS_at 927 (by decide +kernel) rfl
theorem wk_924 : (.methodLink RL 85 yX1_span : Jvm.Cond) ∈ WS := WS_at 924 (by decide +kernel) rfl
theorem wk_925 : (.instanceMethod yX1_span : Jvm.Cond) ∈ WS := WS_at 925 (by decide +kernel) rfl
theorem wk_926 : (.selects RX1 yX1_span yX1_span : Jvm.Cond) ∈ WS := WS_at 926 (by decide +kernel) rfl
theorem vML_span {l : Launch} (hl : l.stackTraces = false) (G : GT) : vM l G (ML_span (gg G)) := ⟨fun i c j h => lookup_all (l := (ML_span (gg G)).fld) (P := fun i e => vFld RL i e.1 e.2) (all_c (vF_RL_13) (all_n)) i (c, j) h, fun i c fs h => lookup_all (l := (ML_span (gg G)).new) (P := fun i e => vNew RL i e.1 e.2) (all_n) i (c, fs) h, lookup_all (l := (ML_span (gg G)).anew) (P := fun i e => vANew RL i e) (all_n), lookup_all (l := (ML_span (gg G)).lng) (P := fun i e => Jvm.Cond.constantLong RL i e ∈ WS) (all_n), lookup_all (l := (ML_span (gg G)).thr) (P := fun i e => vThr RL cL_span i e) (all_n), fun h => absurd rfl h, lookup_all (l := (ML_span (gg G)).cal) (P := fun i e => vCal l G RL i e) (all_c (⟨cX1_span, 6, some .int, fun y hy => by subst hy; exact ⟨by decide, ⟨_, wk_927, okX1_span hl, Or.inl ⟨Nat.ne_of_beq_eq_false rfl, rfl⟩⟩, wk_59, ⟨(by decide : yX1_span.cls ≠ "java/lang/invoke/MethodHandle"), (by decide : yX1_span.cls ≠ "java/lang/invoke/VarHandle")⟩, ⟨(by decide +kernel : (parseMethodDescriptor yX1_span.desc).map (fun d => d.parameters.length + 1) = some 4), wk_924, wk_925, wk_926, (RX1, TX1, 7), rfl, rfl⟩⟩⟩) (all_n)), lookup_all (l := (ML_span (gg G)).stt) (P := fun i e => vStt G RL i e) (all_n), lookup_all (l := (ML_span (gg G)).cst) (P := fun i e => vCst RL i e) (all_n), fun h => absurd rfl h, rfl, all_c (⟨"java/lang/IndexOutOfBoundsException", by decide, rfl, by decide, wk_348⟩) (all_c (⟨"java/lang/IllegalStateException", by decide, rfl, by decide, wk_869⟩) (all_n))⟩
theorem okL_span {l : Launch} (hl : l.stackTraces = false) {G : GT} : ∀ (args : List Value) (w : Hw) (S : Ot → Hw → Prop), spOf (ML_span (gg G)) args w S → CX l G yL_span (.codeWith yL_span cL_span 6 (some .int) [(0, 13, 16, 19), (0, 13, 20, 74)]) 9 8 46 args w S := CX_spH (M := ML_span (gg G)) (y := yL_span) hl (by decide) rfl (vML_span hl G) (fun h => by cases h)
/-! RangecardLaw.shift(LRangecard;IILRangecardLaw$Out;)I -/
theorem dL_shift_0 : decode cL_shift 0 = .ok (.aload_n 3, 1) := by decide +kernel
theorem dL_shift_1 : decode cL_shift 1 = .ok (.aload_n 0, 1) := by decide +kernel
theorem dL_shift_2 : decode cL_shift 2 = .ok (.iload_n 1, 1) := by decide +kernel
theorem dL_shift_3 : decode cL_shift 3 = .ok (.iload_n 2, 1) := by decide +kernel
theorem dL_shift_4 : decode cL_shift 4 = .ok (.invokevirtual 88, 3) := by decide +kernel
theorem dL_shift_7 : decode cL_shift 7 = .ok (.i2l, 1) := by decide +kernel
theorem dL_shift_8 : decode cL_shift 8 = .ok (.putfield 13, 3) := by decide +kernel
theorem dL_shift_11 : decode cL_shift 11 = .ok (.goto 11, 3) := by decide +kernel
theorem dL_shift_14 : decode cL_shift 14 = .ok (.astore 4, 2) := by decide +kernel
theorem dL_shift_16 : decode cL_shift 16 = .ok (.iconst 1, 1) := by decide +kernel
theorem dL_shift_17 : decode cL_shift 17 = .ok (.ireturn, 1) := by decide +kernel
theorem dL_shift_18 : decode cL_shift 18 = .ok (.astore 4, 2) := by decide +kernel
theorem dL_shift_20 : decode cL_shift 20 = .ok (.iconst 2, 1) := by decide +kernel
theorem dL_shift_21 : decode cL_shift 21 = .ok (.ireturn, 1) := by decide +kernel
theorem dL_shift_22 : decode cL_shift 22 = .ok (.iconst 0, 1) := by decide +kernel
theorem dL_shift_23 : decode cL_shift 23 = .ok (.ireturn, 1) := by decide +kernel
def ML_shift (g : RO) : MT := ((RL, cL_shift, 5, 9, 3, 16, false, some .int), [(13, 6, 0)], [], [], [], [], 0, [(88, 2, 3, 5, 8, (fun _ _ => 3), (fun _ _ => 16), yX1_shift, spOf (MX1_shift g))], [], [], 0, [(0, 11, 14, 19), (0, 11, 18, 74)], [(19, "java/lang/IndexOutOfBoundsException"), (74, "java/lang/IllegalStateException")], g)
section
variable {g : RO} {Q : Ot → Hw → Prop} {st : List Value} {w : Hw} {k n p q : Nat} {a b : Int32} {x y : Int64} {u v : Value} {l0 l1 l2 l3 l4 : Option Value}
theorem eL_shift_0 : WP (ML_shift g) Q (0, [l0, l1, l2, some (.ref p), l4], st, w, k, n) = WP (ML_shift g) Q (1, [l0, l1, l2, some (.ref p), l4], .ref p :: st, w, k, n) := Eq.trans (WP_at (M := (ML_shift g)) rfl dL_shift_0 (Or.inr rfl)) rfl
theorem eL_shift_0N : WP (ML_shift g) Q (0, [l0, l1, l2, some .null, l4], st, w, k, n) = WP (ML_shift g) Q (1, [l0, l1, l2, some .null, l4], .null :: st, w, k, n) := Eq.trans (WP_at (M := (ML_shift g)) rfl dL_shift_0 (Or.inr rfl)) rfl
theorem eL_shift_1 : WP (ML_shift g) Q (1, [some (.ref p), l1, l2, l3, l4], st, w, k, n) = WP (ML_shift g) Q (2, [some (.ref p), l1, l2, l3, l4], .ref p :: st, w, k, n) := Eq.trans (WP_at (M := (ML_shift g)) rfl dL_shift_1 (Or.inr rfl)) rfl
theorem eL_shift_1N : WP (ML_shift g) Q (1, [some .null, l1, l2, l3, l4], st, w, k, n) = WP (ML_shift g) Q (2, [some .null, l1, l2, l3, l4], .null :: st, w, k, n) := Eq.trans (WP_at (M := (ML_shift g)) rfl dL_shift_1 (Or.inr rfl)) rfl
theorem eL_shift_2 : WP (ML_shift g) Q (2, [l0, some (.int a), l2, l3, l4], st, w, k, n) = WP (ML_shift g) Q (3, [l0, some (.int a), l2, l3, l4], .int a :: st, w, k, n) := Eq.trans (WP_at (M := (ML_shift g)) rfl dL_shift_2 (Or.inr rfl)) rfl
theorem eL_shift_3 : WP (ML_shift g) Q (3, [l0, l1, some (.int a), l3, l4], st, w, k, n) = WP (ML_shift g) Q (4, [l0, l1, some (.int a), l3, l4], .int a :: st, w, k, n) := Eq.trans (WP_at (M := (ML_shift g)) rfl dL_shift_3 (Or.inr rfl)) rfl
theorem eL_shift_4 {z0 : Int32} {z1 : Int32} : WP (ML_shift g) Q (4, [l0, l1, l2, l3, l4], .int z1 :: .int z0 :: .ref p :: st, w, k, n) = (go (rd g w p) 5 (fun _ => True) ∧ wt st ≤ 8 ∧ k + 3 ≤ 3 ∧ n + 16 ≤ 16 ∧ WP (MX1_shift g) (kx (fun v w' => WP (ML_shift g) Q (7, [l0, l1, l2, l3, l4], v.toList ++ st, w', k + 3, n + 16)) (fun E w' => hgo (ML_shift g) Q (WP (ML_shift g) Q) 4 [l0, l1, l2, l3, l4] E w' (k + 3) (n + 16))) (0, [some (.ref p), some (.int z0), some (.int z1), none], [], w, 0, 0)) := csVH (M := (ML_shift g)) (mc := (fun _ _ => 3)) (ms := (fun _ _ => 16)) (As := [.int z0, .int z1]) (rest := st) (MX1_shift g) rfl dL_shift_4 (by exact fun h => nomatch (show (none : Option Nat) = some 11 from h)) (by exact fun h => nomatch (show (none : Option Nat) = some 15 from h)) rfl rfl (by decide) (Nat.le_of_ble_eq_true rfl) (Nat.le_of_ble_eq_true rfl) rfl
theorem eL_shift_7 : WP (ML_shift g) Q (7, [l0, l1, l2, l3, l4], .int a :: st, w, k, n) = WP (ML_shift g) Q (8, [l0, l1, l2, l3, l4], .long a.toInt64 :: st, w, k, n) := Eq.trans (WP_at (M := (ML_shift g)) rfl dL_shift_7 (Or.inr rfl)) rfl
theorem eL_shift_8 : WP (ML_shift g) Q (8, [l0, l1, l2, l3, l4], v :: .ref p :: st, w, k, n) = go (w p) 6 fun fs => 0 < fs.length ∧ (narrow (.long) v = v ∧ fits (.long) v = true) ∧ WP (ML_shift g) Q (11, [l0, l1, l2, l3, l4], st, upw w p (.inr (6, fs.set 0 v)), k, n) := put_e (q := (RX2, TX2, 2)) rfl dL_shift_8 rfl rfl (tyX2_ok 0 (by decide)) (Or.inl rfl)
theorem eL_shift_11 : WP (ML_shift g) Q (11, [l0, l1, l2, l3, l4], st, w, k, n) = WP (ML_shift g) Q (22, [l0, l1, l2, l3, l4], st, w, k, n) := goto_e rfl dL_shift_11 (by decide)
theorem eL_shift_14 : WP (ML_shift g) Q (14, [l0, l1, l2, l3, l4], .ref p :: st, w, k, n) = WP (ML_shift g) Q (16, [l0, l1, l2, nl l3, some (.ref p)], st, w, k, n) := by rw [WP_at (M := (ML_shift g)) rfl dL_shift_14 (Or.inr rfl)]; exact and_t (Nat.le_of_ble_eq_true rfl)
theorem eL_shift_14N : WP (ML_shift g) Q (14, [l0, l1, l2, l3, l4], .null :: st, w, k, n) = WP (ML_shift g) Q (16, [l0, l1, l2, nl l3, some (.null)], st, w, k, n) := by rw [WP_at (M := (ML_shift g)) rfl dL_shift_14 (Or.inr rfl)]; exact and_t (Nat.le_of_ble_eq_true rfl)
theorem eL_shift_16 : WP (ML_shift g) Q (16, [l0, l1, l2, l3, l4], st, w, k, n) = WP (ML_shift g) Q (17, [l0, l1, l2, l3, l4], .int 1 :: st, w, k, n) := iconst_e rfl dL_shift_16 (by decide)
theorem eL_shift_17 : WP (ML_shift g) Q (17, [l0, l1, l2, l3, l4], [.int a], w, k, n) = (k ≤ 3 ∧ n ≤ 16 ∧ Q (.inl (some (.int a))) w) := iretI_e rfl dL_shift_17 rfl
theorem eL_shift_18 : WP (ML_shift g) Q (18, [l0, l1, l2, l3, l4], .ref p :: st, w, k, n) = WP (ML_shift g) Q (20, [l0, l1, l2, nl l3, some (.ref p)], st, w, k, n) := by rw [WP_at (M := (ML_shift g)) rfl dL_shift_18 (Or.inr rfl)]; exact and_t (Nat.le_of_ble_eq_true rfl)
theorem eL_shift_18N : WP (ML_shift g) Q (18, [l0, l1, l2, l3, l4], .null :: st, w, k, n) = WP (ML_shift g) Q (20, [l0, l1, l2, nl l3, some (.null)], st, w, k, n) := by rw [WP_at (M := (ML_shift g)) rfl dL_shift_18 (Or.inr rfl)]; exact and_t (Nat.le_of_ble_eq_true rfl)
theorem eL_shift_20 : WP (ML_shift g) Q (20, [l0, l1, l2, l3, l4], st, w, k, n) = WP (ML_shift g) Q (21, [l0, l1, l2, l3, l4], .int 2 :: st, w, k, n) := iconst_e rfl dL_shift_20 (by decide)
theorem eL_shift_21 : WP (ML_shift g) Q (21, [l0, l1, l2, l3, l4], [.int a], w, k, n) = (k ≤ 3 ∧ n ≤ 16 ∧ Q (.inl (some (.int a))) w) := iretI_e rfl dL_shift_21 rfl
theorem eL_shift_22 : WP (ML_shift g) Q (22, [l0, l1, l2, l3, l4], st, w, k, n) = WP (ML_shift g) Q (23, [l0, l1, l2, l3, l4], .int 0 :: st, w, k, n) := iconst_e rfl dL_shift_22 (by decide)
theorem eL_shift_23 : WP (ML_shift g) Q (23, [l0, l1, l2, l3, l4], [.int a], w, k, n) = (k ≤ 3 ∧ n ≤ 16 ∧ Q (.inl (some (.int a))) w) := iretI_e rfl dL_shift_23 rfl
end
theorem wk_934 : (.code yX1_shift cX1_shift 4 (some .int) : Jvm.Cond) ∈ WS := WS_at 934 (by decide +kernel) rfl
theorem wk_931 : (.methodLink RL 88 yX1_shift : Jvm.Cond) ∈ WS := WS_at 931 (by decide +kernel) rfl
theorem wk_932 : (.instanceMethod yX1_shift : Jvm.Cond) ∈ WS := WS_at 932 (by decide +kernel) rfl
theorem wk_933 : (.selects RX1 yX1_shift yX1_shift : Jvm.Cond) ∈ WS := WS_at 933 (by decide +kernel) rfl
theorem vML_shift {l : Launch} (hl : l.stackTraces = false) (G : GT) : vM l G (ML_shift (gg G)) := ⟨fun i c j h => lookup_all (l := (ML_shift (gg G)).fld) (P := fun i e => vFld RL i e.1 e.2) (all_c (vF_RL_13) (all_n)) i (c, j) h, fun i c fs h => lookup_all (l := (ML_shift (gg G)).new) (P := fun i e => vNew RL i e.1 e.2) (all_n) i (c, fs) h, lookup_all (l := (ML_shift (gg G)).anew) (P := fun i e => vANew RL i e) (all_n), lookup_all (l := (ML_shift (gg G)).lng) (P := fun i e => Jvm.Cond.constantLong RL i e ∈ WS) (all_n), lookup_all (l := (ML_shift (gg G)).thr) (P := fun i e => vThr RL cL_shift i e) (all_n), fun h => absurd rfl h, lookup_all (l := (ML_shift (gg G)).cal) (P := fun i e => vCal l G RL i e) (all_c (⟨cX1_shift, 4, some .int, fun y hy => by subst hy; exact ⟨by decide, ⟨_, wk_934, okX1_shift hl, Or.inl ⟨Nat.ne_of_beq_eq_false rfl, rfl⟩⟩, wk_59, ⟨(by decide : yX1_shift.cls ≠ "java/lang/invoke/MethodHandle"), (by decide : yX1_shift.cls ≠ "java/lang/invoke/VarHandle")⟩, ⟨(by decide +kernel : (parseMethodDescriptor yX1_shift.desc).map (fun d => d.parameters.length + 1) = some 3), wk_931, wk_932, wk_933, (RX1, TX1, 7), rfl, rfl⟩⟩⟩) (all_n)), lookup_all (l := (ML_shift (gg G)).stt) (P := fun i e => vStt G RL i e) (all_n), lookup_all (l := (ML_shift (gg G)).cst) (P := fun i e => vCst RL i e) (all_n), fun h => absurd rfl h, rfl, all_c (⟨"java/lang/IndexOutOfBoundsException", by decide, rfl, by decide, wk_348⟩) (all_c (⟨"java/lang/IllegalStateException", by decide, rfl, by decide, wk_869⟩) (all_n))⟩
theorem okL_shift {l : Launch} (hl : l.stackTraces = false) {G : GT} : ∀ (args : List Value) (w : Hw) (S : Ot → Hw → Prop), spOf (ML_shift (gg G)) args w S → CX l G yL_shift (.codeWith yL_shift cL_shift 5 (some .int) [(0, 11, 14, 19), (0, 11, 18, 74)]) 9 3 16 args w S := CX_spH (M := ML_shift (gg G)) (y := yL_shift) hl (by decide) rfl (vML_shift hl G) (fun h => by cases h)
/-! RangecardLaw.drop(LRangecard;ILRangecardLaw$Out;)I -/
theorem dL_drop_0 : decode cL_drop 0 = .ok (.aload_n 2, 1) := by decide +kernel
theorem dL_drop_1 : decode cL_drop 1 = .ok (.aload_n 0, 1) := by decide +kernel
theorem dL_drop_2 : decode cL_drop 2 = .ok (.iload_n 1, 1) := by decide +kernel
theorem dL_drop_3 : decode cL_drop 3 = .ok (.invokevirtual 91, 3) := by decide +kernel
theorem dL_drop_6 : decode cL_drop 6 = .ok (.i2l, 1) := by decide +kernel
theorem dL_drop_7 : decode cL_drop 7 = .ok (.putfield 13, 3) := by decide +kernel
theorem dL_drop_10 : decode cL_drop 10 = .ok (.goto 6, 3) := by decide +kernel
theorem dL_drop_13 : decode cL_drop 13 = .ok (.astore_n 3, 1) := by decide +kernel
theorem dL_drop_14 : decode cL_drop 14 = .ok (.iconst 1, 1) := by decide +kernel
theorem dL_drop_15 : decode cL_drop 15 = .ok (.ireturn, 1) := by decide +kernel
theorem dL_drop_16 : decode cL_drop 16 = .ok (.iconst 0, 1) := by decide +kernel
theorem dL_drop_17 : decode cL_drop 17 = .ok (.ireturn, 1) := by decide +kernel
def ML_drop (g : RO) : MT := ((RL, cL_drop, 4, 8, 1, 6, false, some .int), [(13, 6, 0)], [], [], [], [], 0, [(91, 2, 2, 5, 7, (fun _ _ => 1), (fun _ _ => 6), yX1_drop, spOf (MX1_drop g))], [], [], 0, [(0, 10, 13, 19)], [(19, "java/lang/IndexOutOfBoundsException")], g)
section
variable {g : RO} {Q : Ot → Hw → Prop} {st : List Value} {w : Hw} {k n p q : Nat} {a b : Int32} {x y : Int64} {u v : Value} {l0 l1 l2 l3 : Option Value}
theorem eL_drop_0 : WP (ML_drop g) Q (0, [l0, l1, some (.ref p), l3], st, w, k, n) = WP (ML_drop g) Q (1, [l0, l1, some (.ref p), l3], .ref p :: st, w, k, n) := Eq.trans (WP_at (M := (ML_drop g)) rfl dL_drop_0 (Or.inr rfl)) rfl
theorem eL_drop_0N : WP (ML_drop g) Q (0, [l0, l1, some .null, l3], st, w, k, n) = WP (ML_drop g) Q (1, [l0, l1, some .null, l3], .null :: st, w, k, n) := Eq.trans (WP_at (M := (ML_drop g)) rfl dL_drop_0 (Or.inr rfl)) rfl
theorem eL_drop_1 : WP (ML_drop g) Q (1, [some (.ref p), l1, l2, l3], st, w, k, n) = WP (ML_drop g) Q (2, [some (.ref p), l1, l2, l3], .ref p :: st, w, k, n) := Eq.trans (WP_at (M := (ML_drop g)) rfl dL_drop_1 (Or.inr rfl)) rfl
theorem eL_drop_1N : WP (ML_drop g) Q (1, [some .null, l1, l2, l3], st, w, k, n) = WP (ML_drop g) Q (2, [some .null, l1, l2, l3], .null :: st, w, k, n) := Eq.trans (WP_at (M := (ML_drop g)) rfl dL_drop_1 (Or.inr rfl)) rfl
theorem eL_drop_2 : WP (ML_drop g) Q (2, [l0, some (.int a), l2, l3], st, w, k, n) = WP (ML_drop g) Q (3, [l0, some (.int a), l2, l3], .int a :: st, w, k, n) := Eq.trans (WP_at (M := (ML_drop g)) rfl dL_drop_2 (Or.inr rfl)) rfl
theorem eL_drop_3 {z0 : Int32} : WP (ML_drop g) Q (3, [l0, l1, l2, l3], .int z0 :: .ref p :: st, w, k, n) = (go (rd g w p) 5 (fun _ => True) ∧ wt st ≤ 8 ∧ k + 1 ≤ 1 ∧ n + 6 ≤ 6 ∧ WP (MX1_drop g) (kx (fun v w' => WP (ML_drop g) Q (6, [l0, l1, l2, l3], v.toList ++ st, w', k + 1, n + 6)) (fun E w' => hgo (ML_drop g) Q (WP (ML_drop g) Q) 3 [l0, l1, l2, l3] E w' (k + 1) (n + 6))) (0, [some (.ref p), some (.int z0), none], [], w, 0, 0)) := csVH (M := (ML_drop g)) (mc := (fun _ _ => 1)) (ms := (fun _ _ => 6)) (As := [.int z0]) (rest := st) (MX1_drop g) rfl dL_drop_3 (by exact fun h => nomatch (show (none : Option Nat) = some 11 from h)) (by exact fun h => nomatch (show (none : Option Nat) = some 15 from h)) rfl rfl (by decide) (Nat.le_of_ble_eq_true rfl) (Nat.le_of_ble_eq_true rfl) rfl
theorem eL_drop_6 : WP (ML_drop g) Q (6, [l0, l1, l2, l3], .int a :: st, w, k, n) = WP (ML_drop g) Q (7, [l0, l1, l2, l3], .long a.toInt64 :: st, w, k, n) := Eq.trans (WP_at (M := (ML_drop g)) rfl dL_drop_6 (Or.inr rfl)) rfl
theorem eL_drop_7 : WP (ML_drop g) Q (7, [l0, l1, l2, l3], v :: .ref p :: st, w, k, n) = go (w p) 6 fun fs => 0 < fs.length ∧ (narrow (.long) v = v ∧ fits (.long) v = true) ∧ WP (ML_drop g) Q (10, [l0, l1, l2, l3], st, upw w p (.inr (6, fs.set 0 v)), k, n) := put_e (q := (RX2, TX2, 2)) rfl dL_drop_7 rfl rfl (tyX2_ok 0 (by decide)) (Or.inl rfl)
theorem eL_drop_10 : WP (ML_drop g) Q (10, [l0, l1, l2, l3], st, w, k, n) = WP (ML_drop g) Q (16, [l0, l1, l2, l3], st, w, k, n) := goto_e rfl dL_drop_10 (by decide)
theorem eL_drop_13 : WP (ML_drop g) Q (13, [l0, l1, l2, l3], .ref p :: st, w, k, n) = WP (ML_drop g) Q (14, [l0, l1, nl l2, some (.ref p)], st, w, k, n) := by rw [WP_at (M := (ML_drop g)) rfl dL_drop_13 (Or.inr rfl)]; exact and_t (Nat.le_of_ble_eq_true rfl)
theorem eL_drop_13N : WP (ML_drop g) Q (13, [l0, l1, l2, l3], .null :: st, w, k, n) = WP (ML_drop g) Q (14, [l0, l1, nl l2, some (.null)], st, w, k, n) := by rw [WP_at (M := (ML_drop g)) rfl dL_drop_13 (Or.inr rfl)]; exact and_t (Nat.le_of_ble_eq_true rfl)
theorem eL_drop_14 : WP (ML_drop g) Q (14, [l0, l1, l2, l3], st, w, k, n) = WP (ML_drop g) Q (15, [l0, l1, l2, l3], .int 1 :: st, w, k, n) := iconst_e rfl dL_drop_14 (by decide)
theorem eL_drop_15 : WP (ML_drop g) Q (15, [l0, l1, l2, l3], [.int a], w, k, n) = (k ≤ 1 ∧ n ≤ 6 ∧ Q (.inl (some (.int a))) w) := iretI_e rfl dL_drop_15 rfl
theorem eL_drop_16 : WP (ML_drop g) Q (16, [l0, l1, l2, l3], st, w, k, n) = WP (ML_drop g) Q (17, [l0, l1, l2, l3], .int 0 :: st, w, k, n) := iconst_e rfl dL_drop_16 (by decide)
theorem eL_drop_17 : WP (ML_drop g) Q (17, [l0, l1, l2, l3], [.int a], w, k, n) = (k ≤ 1 ∧ n ≤ 6 ∧ Q (.inl (some (.int a))) w) := iretI_e rfl dL_drop_17 rfl
end
theorem wk_941 : (.code yX1_drop cX1_drop 3 (some .int) : Jvm.Cond) ∈ WS := WS_at 941 (by decide +kernel) rfl
theorem wk_938 : (.methodLink RL 91 yX1_drop : Jvm.Cond) ∈ WS := WS_at 938 (by decide +kernel) rfl
theorem wk_939 : (.instanceMethod yX1_drop : Jvm.Cond) ∈ WS := WS_at 939 (by decide +kernel) rfl
theorem wk_940 : (.selects RX1 yX1_drop yX1_drop : Jvm.Cond) ∈ WS := WS_at 940 (by decide +kernel) rfl
theorem vML_drop {l : Launch} (hl : l.stackTraces = false) (G : GT) : vM l G (ML_drop (gg G)) := ⟨fun i c j h => lookup_all (l := (ML_drop (gg G)).fld) (P := fun i e => vFld RL i e.1 e.2) (all_c (vF_RL_13) (all_n)) i (c, j) h, fun i c fs h => lookup_all (l := (ML_drop (gg G)).new) (P := fun i e => vNew RL i e.1 e.2) (all_n) i (c, fs) h, lookup_all (l := (ML_drop (gg G)).anew) (P := fun i e => vANew RL i e) (all_n), lookup_all (l := (ML_drop (gg G)).lng) (P := fun i e => Jvm.Cond.constantLong RL i e ∈ WS) (all_n), lookup_all (l := (ML_drop (gg G)).thr) (P := fun i e => vThr RL cL_drop i e) (all_n), fun h => absurd rfl h, lookup_all (l := (ML_drop (gg G)).cal) (P := fun i e => vCal l G RL i e) (all_c (⟨cX1_drop, 3, some .int, fun y hy => by subst hy; exact ⟨by decide, ⟨_, wk_941, okX1_drop hl, Or.inl ⟨Nat.ne_of_beq_eq_false rfl, rfl⟩⟩, wk_59, ⟨(by decide : yX1_drop.cls ≠ "java/lang/invoke/MethodHandle"), (by decide : yX1_drop.cls ≠ "java/lang/invoke/VarHandle")⟩, ⟨(by decide +kernel : (parseMethodDescriptor yX1_drop.desc).map (fun d => d.parameters.length + 1) = some 2), wk_938, wk_939, wk_940, (RX1, TX1, 7), rfl, rfl⟩⟩⟩) (all_n)), lookup_all (l := (ML_drop (gg G)).stt) (P := fun i e => vStt G RL i e) (all_n), lookup_all (l := (ML_drop (gg G)).cst) (P := fun i e => vCst RL i e) (all_n), fun h => absurd rfl h, rfl, all_c (⟨"java/lang/IndexOutOfBoundsException", by decide, rfl, by decide, wk_348⟩) (all_n)⟩
theorem okL_drop {l : Launch} (hl : l.stackTraces = false) {G : GT} : ∀ (args : List Value) (w : Hw) (S : Ot → Hw → Prop), spOf (ML_drop (gg G)) args w S → CX l G yL_drop (.codeWith yL_drop cL_drop 4 (some .int) [(0, 10, 13, 19)]) 8 1 6 args w S := CX_spH (M := ML_drop (gg G)) (y := yL_drop) hl (by decide) rfl (vML_drop hl G) (fun h => by cases h)
/-! RangecardLaw.isThere(LRangecard;ILRangecardLaw$Out;)I -/
theorem dL_isThere_0 : decode cL_isThere 0 = .ok (.aload_n 2, 1) := by decide +kernel
theorem dL_isThere_1 : decode cL_isThere 1 = .ok (.aload_n 0, 1) := by decide +kernel
theorem dL_isThere_2 : decode cL_isThere 2 = .ok (.iload_n 1, 1) := by decide +kernel
theorem dL_isThere_3 : decode cL_isThere 3 = .ok (.invokevirtual 95, 3) := by decide +kernel
theorem dL_isThere_6 : decode cL_isThere 6 = .ok (.ifCond .eq 7, 3) := by decide +kernel
theorem dL_isThere_9 : decode cL_isThere 9 = .ok (.lconst 1, 1) := by decide +kernel
theorem dL_isThere_10 : decode cL_isThere 10 = .ok (.goto 4, 3) := by decide +kernel
theorem dL_isThere_13 : decode cL_isThere 13 = .ok (.lconst 0, 1) := by decide +kernel
theorem dL_isThere_14 : decode cL_isThere 14 = .ok (.putfield 13, 3) := by decide +kernel
theorem dL_isThere_17 : decode cL_isThere 17 = .ok (.goto 6, 3) := by decide +kernel
theorem dL_isThere_20 : decode cL_isThere 20 = .ok (.astore_n 3, 1) := by decide +kernel
theorem dL_isThere_21 : decode cL_isThere 21 = .ok (.iconst 1, 1) := by decide +kernel
theorem dL_isThere_22 : decode cL_isThere 22 = .ok (.ireturn, 1) := by decide +kernel
theorem dL_isThere_23 : decode cL_isThere 23 = .ok (.iconst 0, 1) := by decide +kernel
theorem dL_isThere_24 : decode cL_isThere 24 = .ok (.ireturn, 1) := by decide +kernel
def ML_isThere (g : RO) : MT := ((RL, cL_isThere, 4, 8, 1, 6, false, some .int), [(13, 6, 0)], [], [], [], [], 0, [(95, 2, 2, 5, 7, (fun _ _ => 1), (fun _ _ => 6), yX1_isThere, spOf (MX1_isThere g))], [], [], 0, [(0, 17, 20, 19)], [(19, "java/lang/IndexOutOfBoundsException")], g)
section
variable {g : RO} {Q : Ot → Hw → Prop} {st : List Value} {w : Hw} {k n p q : Nat} {a b : Int32} {x y : Int64} {u v : Value} {l0 l1 l2 l3 : Option Value}
theorem eL_isThere_0 : WP (ML_isThere g) Q (0, [l0, l1, some (.ref p), l3], st, w, k, n) = WP (ML_isThere g) Q (1, [l0, l1, some (.ref p), l3], .ref p :: st, w, k, n) := Eq.trans (WP_at (M := (ML_isThere g)) rfl dL_isThere_0 (Or.inr rfl)) rfl
theorem eL_isThere_0N : WP (ML_isThere g) Q (0, [l0, l1, some .null, l3], st, w, k, n) = WP (ML_isThere g) Q (1, [l0, l1, some .null, l3], .null :: st, w, k, n) := Eq.trans (WP_at (M := (ML_isThere g)) rfl dL_isThere_0 (Or.inr rfl)) rfl
theorem eL_isThere_1 : WP (ML_isThere g) Q (1, [some (.ref p), l1, l2, l3], st, w, k, n) = WP (ML_isThere g) Q (2, [some (.ref p), l1, l2, l3], .ref p :: st, w, k, n) := Eq.trans (WP_at (M := (ML_isThere g)) rfl dL_isThere_1 (Or.inr rfl)) rfl
theorem eL_isThere_1N : WP (ML_isThere g) Q (1, [some .null, l1, l2, l3], st, w, k, n) = WP (ML_isThere g) Q (2, [some .null, l1, l2, l3], .null :: st, w, k, n) := Eq.trans (WP_at (M := (ML_isThere g)) rfl dL_isThere_1 (Or.inr rfl)) rfl
theorem eL_isThere_2 : WP (ML_isThere g) Q (2, [l0, some (.int a), l2, l3], st, w, k, n) = WP (ML_isThere g) Q (3, [l0, some (.int a), l2, l3], .int a :: st, w, k, n) := Eq.trans (WP_at (M := (ML_isThere g)) rfl dL_isThere_2 (Or.inr rfl)) rfl
theorem eL_isThere_3 {z0 : Int32} : WP (ML_isThere g) Q (3, [l0, l1, l2, l3], .int z0 :: .ref p :: st, w, k, n) = (go (rd g w p) 5 (fun _ => True) ∧ wt st ≤ 8 ∧ k + 1 ≤ 1 ∧ n + 6 ≤ 6 ∧ WP (MX1_isThere g) (kx (fun v w' => WP (ML_isThere g) Q (6, [l0, l1, l2, l3], v.toList ++ st, w', k + 1, n + 6)) (fun E w' => hgo (ML_isThere g) Q (WP (ML_isThere g) Q) 3 [l0, l1, l2, l3] E w' (k + 1) (n + 6))) (0, [some (.ref p), some (.int z0)], [], w, 0, 0)) := csVH (M := (ML_isThere g)) (mc := (fun _ _ => 1)) (ms := (fun _ _ => 6)) (As := [.int z0]) (rest := st) (MX1_isThere g) rfl dL_isThere_3 (by exact fun h => nomatch (show (none : Option Nat) = some 11 from h)) (by exact fun h => nomatch (show (none : Option Nat) = some 15 from h)) rfl rfl (by decide) (Nat.le_of_ble_eq_true rfl) (Nat.le_of_ble_eq_true rfl) rfl
theorem eL_isThere_6 : WP (ML_isThere g) Q (6, [l0, l1, l2, l3], .int a :: st, w, k, n) = if a = 0 then WP (ML_isThere g) Q (13, [l0, l1, l2, l3], st, w, k, n) else WP (ML_isThere g) Q (9, [l0, l1, l2, l3], st, w, k, n) := ifc_e (a = 0) rfl dL_isThere_6 rfl (by decide)
theorem eL_isThere_9 : WP (ML_isThere g) Q (9, [l0, l1, l2, l3], st, w, k, n) = WP (ML_isThere g) Q (10, [l0, l1, l2, l3], .long 1 :: st, w, k, n) := lconst_e rfl dL_isThere_9 (by decide)
theorem eL_isThere_10 : WP (ML_isThere g) Q (10, [l0, l1, l2, l3], st, w, k, n) = WP (ML_isThere g) Q (14, [l0, l1, l2, l3], st, w, k, n) := goto_e rfl dL_isThere_10 (by decide)
theorem eL_isThere_13 : WP (ML_isThere g) Q (13, [l0, l1, l2, l3], st, w, k, n) = WP (ML_isThere g) Q (14, [l0, l1, l2, l3], .long 0 :: st, w, k, n) := lconst_e rfl dL_isThere_13 (by decide)
theorem eL_isThere_14 : WP (ML_isThere g) Q (14, [l0, l1, l2, l3], v :: .ref p :: st, w, k, n) = go (w p) 6 fun fs => 0 < fs.length ∧ (narrow (.long) v = v ∧ fits (.long) v = true) ∧ WP (ML_isThere g) Q (17, [l0, l1, l2, l3], st, upw w p (.inr (6, fs.set 0 v)), k, n) := put_e (q := (RX2, TX2, 2)) rfl dL_isThere_14 rfl rfl (tyX2_ok 0 (by decide)) (Or.inl rfl)
theorem eL_isThere_17 : WP (ML_isThere g) Q (17, [l0, l1, l2, l3], st, w, k, n) = WP (ML_isThere g) Q (23, [l0, l1, l2, l3], st, w, k, n) := goto_e rfl dL_isThere_17 (by decide)
theorem eL_isThere_20 : WP (ML_isThere g) Q (20, [l0, l1, l2, l3], .ref p :: st, w, k, n) = WP (ML_isThere g) Q (21, [l0, l1, nl l2, some (.ref p)], st, w, k, n) := by rw [WP_at (M := (ML_isThere g)) rfl dL_isThere_20 (Or.inr rfl)]; exact and_t (Nat.le_of_ble_eq_true rfl)
theorem eL_isThere_20N : WP (ML_isThere g) Q (20, [l0, l1, l2, l3], .null :: st, w, k, n) = WP (ML_isThere g) Q (21, [l0, l1, nl l2, some (.null)], st, w, k, n) := by rw [WP_at (M := (ML_isThere g)) rfl dL_isThere_20 (Or.inr rfl)]; exact and_t (Nat.le_of_ble_eq_true rfl)
theorem eL_isThere_21 : WP (ML_isThere g) Q (21, [l0, l1, l2, l3], st, w, k, n) = WP (ML_isThere g) Q (22, [l0, l1, l2, l3], .int 1 :: st, w, k, n) := iconst_e rfl dL_isThere_21 (by decide)
theorem eL_isThere_22 : WP (ML_isThere g) Q (22, [l0, l1, l2, l3], [.int a], w, k, n) = (k ≤ 1 ∧ n ≤ 6 ∧ Q (.inl (some (.int a))) w) := iretI_e rfl dL_isThere_22 rfl
theorem eL_isThere_23 : WP (ML_isThere g) Q (23, [l0, l1, l2, l3], st, w, k, n) = WP (ML_isThere g) Q (24, [l0, l1, l2, l3], .int 0 :: st, w, k, n) := iconst_e rfl dL_isThere_23 (by decide)
theorem eL_isThere_24 : WP (ML_isThere g) Q (24, [l0, l1, l2, l3], [.int a], w, k, n) = (k ≤ 1 ∧ n ≤ 6 ∧ Q (.inl (some (.int a))) w) := iretI_e rfl dL_isThere_24 rfl
end
theorem wk_948 : (.code yX1_isThere cX1_isThere 2 (some .boolean) : Jvm.Cond) ∈ WS := WS_at 948 (by decide +kernel) rfl
theorem wk_945 : (.methodLink RL 95 yX1_isThere : Jvm.Cond) ∈ WS := WS_at 945 (by decide +kernel) rfl
theorem wk_946 : (.instanceMethod yX1_isThere : Jvm.Cond) ∈ WS := WS_at 946 (by decide +kernel) rfl
theorem wk_947 : (.selects RX1 yX1_isThere yX1_isThere : Jvm.Cond) ∈ WS := WS_at 947 (by decide +kernel) rfl
theorem vML_isThere {l : Launch} (hl : l.stackTraces = false) (G : GT) : vM l G (ML_isThere (gg G)) := ⟨fun i c j h => lookup_all (l := (ML_isThere (gg G)).fld) (P := fun i e => vFld RL i e.1 e.2) (all_c (vF_RL_13) (all_n)) i (c, j) h, fun i c fs h => lookup_all (l := (ML_isThere (gg G)).new) (P := fun i e => vNew RL i e.1 e.2) (all_n) i (c, fs) h, lookup_all (l := (ML_isThere (gg G)).anew) (P := fun i e => vANew RL i e) (all_n), lookup_all (l := (ML_isThere (gg G)).lng) (P := fun i e => Jvm.Cond.constantLong RL i e ∈ WS) (all_n), lookup_all (l := (ML_isThere (gg G)).thr) (P := fun i e => vThr RL cL_isThere i e) (all_n), fun h => absurd rfl h, lookup_all (l := (ML_isThere (gg G)).cal) (P := fun i e => vCal l G RL i e) (all_c (⟨cX1_isThere, 2, some .boolean, fun y hy => by subst hy; exact ⟨by decide, ⟨_, wk_948, okX1_isThere hl, Or.inl ⟨Nat.ne_of_beq_eq_false rfl, rfl⟩⟩, wk_59, ⟨(by decide : yX1_isThere.cls ≠ "java/lang/invoke/MethodHandle"), (by decide : yX1_isThere.cls ≠ "java/lang/invoke/VarHandle")⟩, ⟨(by decide +kernel : (parseMethodDescriptor yX1_isThere.desc).map (fun d => d.parameters.length + 1) = some 2), wk_945, wk_946, wk_947, (RX1, TX1, 7), rfl, rfl⟩⟩⟩) (all_n)), lookup_all (l := (ML_isThere (gg G)).stt) (P := fun i e => vStt G RL i e) (all_n), lookup_all (l := (ML_isThere (gg G)).cst) (P := fun i e => vCst RL i e) (all_n), fun h => absurd rfl h, rfl, all_c (⟨"java/lang/IndexOutOfBoundsException", by decide, rfl, by decide, wk_348⟩) (all_n)⟩
theorem okL_isThere {l : Launch} (hl : l.stackTraces = false) {G : GT} : ∀ (args : List Value) (w : Hw) (S : Ot → Hw → Prop), spOf (ML_isThere (gg G)) args w S → CX l G yL_isThere (.codeWith yL_isThere cL_isThere 4 (some .int) [(0, 17, 20, 19)]) 8 1 6 args w S := CX_spH (M := ML_isThere (gg G)) (y := yL_isThere) hl (by decide) rfl (vML_isThere hl G) (fun h => by cases h)
/-! RangecardLaw.isFixed(LRangecard;ILRangecardLaw$Out;)I -/
theorem dL_isFixed_0 : decode cL_isFixed 0 = .ok (.aload_n 2, 1) := by decide +kernel
theorem dL_isFixed_1 : decode cL_isFixed 1 = .ok (.aload_n 0, 1) := by decide +kernel
theorem dL_isFixed_2 : decode cL_isFixed 2 = .ok (.iload_n 1, 1) := by decide +kernel
theorem dL_isFixed_3 : decode cL_isFixed 3 = .ok (.invokevirtual 99, 3) := by decide +kernel
theorem dL_isFixed_6 : decode cL_isFixed 6 = .ok (.ifCond .eq 7, 3) := by decide +kernel
theorem dL_isFixed_9 : decode cL_isFixed 9 = .ok (.lconst 1, 1) := by decide +kernel
theorem dL_isFixed_10 : decode cL_isFixed 10 = .ok (.goto 4, 3) := by decide +kernel
theorem dL_isFixed_13 : decode cL_isFixed 13 = .ok (.lconst 0, 1) := by decide +kernel
theorem dL_isFixed_14 : decode cL_isFixed 14 = .ok (.putfield 13, 3) := by decide +kernel
theorem dL_isFixed_17 : decode cL_isFixed 17 = .ok (.goto 9, 3) := by decide +kernel
theorem dL_isFixed_20 : decode cL_isFixed 20 = .ok (.astore_n 3, 1) := by decide +kernel
theorem dL_isFixed_21 : decode cL_isFixed 21 = .ok (.iconst 1, 1) := by decide +kernel
theorem dL_isFixed_22 : decode cL_isFixed 22 = .ok (.ireturn, 1) := by decide +kernel
theorem dL_isFixed_23 : decode cL_isFixed 23 = .ok (.astore_n 3, 1) := by decide +kernel
theorem dL_isFixed_24 : decode cL_isFixed 24 = .ok (.iconst 2, 1) := by decide +kernel
theorem dL_isFixed_25 : decode cL_isFixed 25 = .ok (.ireturn, 1) := by decide +kernel
theorem dL_isFixed_26 : decode cL_isFixed 26 = .ok (.iconst 0, 1) := by decide +kernel
theorem dL_isFixed_27 : decode cL_isFixed 27 = .ok (.ireturn, 1) := by decide +kernel
def ML_isFixed (g : RO) : MT := ((RL, cL_isFixed, 4, 9, 2, 12, false, some .int), [(13, 6, 0)], [], [], [], [], 0, [(99, 2, 2, 5, 8, (fun _ _ => 2), (fun _ _ => 12), yX1_isFixed, spOf (MX1_isFixed g))], [], [], 0, [(0, 17, 20, 19), (0, 17, 23, 74)], [(19, "java/lang/IndexOutOfBoundsException"), (74, "java/lang/IllegalStateException")], g)
section
variable {g : RO} {Q : Ot → Hw → Prop} {st : List Value} {w : Hw} {k n p q : Nat} {a b : Int32} {x y : Int64} {u v : Value} {l0 l1 l2 l3 : Option Value}
theorem eL_isFixed_0 : WP (ML_isFixed g) Q (0, [l0, l1, some (.ref p), l3], st, w, k, n) = WP (ML_isFixed g) Q (1, [l0, l1, some (.ref p), l3], .ref p :: st, w, k, n) := Eq.trans (WP_at (M := (ML_isFixed g)) rfl dL_isFixed_0 (Or.inr rfl)) rfl
theorem eL_isFixed_0N : WP (ML_isFixed g) Q (0, [l0, l1, some .null, l3], st, w, k, n) = WP (ML_isFixed g) Q (1, [l0, l1, some .null, l3], .null :: st, w, k, n) := Eq.trans (WP_at (M := (ML_isFixed g)) rfl dL_isFixed_0 (Or.inr rfl)) rfl
theorem eL_isFixed_1 : WP (ML_isFixed g) Q (1, [some (.ref p), l1, l2, l3], st, w, k, n) = WP (ML_isFixed g) Q (2, [some (.ref p), l1, l2, l3], .ref p :: st, w, k, n) := Eq.trans (WP_at (M := (ML_isFixed g)) rfl dL_isFixed_1 (Or.inr rfl)) rfl
theorem eL_isFixed_1N : WP (ML_isFixed g) Q (1, [some .null, l1, l2, l3], st, w, k, n) = WP (ML_isFixed g) Q (2, [some .null, l1, l2, l3], .null :: st, w, k, n) := Eq.trans (WP_at (M := (ML_isFixed g)) rfl dL_isFixed_1 (Or.inr rfl)) rfl
theorem eL_isFixed_2 : WP (ML_isFixed g) Q (2, [l0, some (.int a), l2, l3], st, w, k, n) = WP (ML_isFixed g) Q (3, [l0, some (.int a), l2, l3], .int a :: st, w, k, n) := Eq.trans (WP_at (M := (ML_isFixed g)) rfl dL_isFixed_2 (Or.inr rfl)) rfl
theorem eL_isFixed_3 {z0 : Int32} : WP (ML_isFixed g) Q (3, [l0, l1, l2, l3], .int z0 :: .ref p :: st, w, k, n) = (go (rd g w p) 5 (fun _ => True) ∧ wt st ≤ 8 ∧ k + 2 ≤ 2 ∧ n + 12 ≤ 12 ∧ WP (MX1_isFixed g) (kx (fun v w' => WP (ML_isFixed g) Q (6, [l0, l1, l2, l3], v.toList ++ st, w', k + 2, n + 12)) (fun E w' => hgo (ML_isFixed g) Q (WP (ML_isFixed g) Q) 3 [l0, l1, l2, l3] E w' (k + 2) (n + 12))) (0, [some (.ref p), some (.int z0)], [], w, 0, 0)) := csVH (M := (ML_isFixed g)) (mc := (fun _ _ => 2)) (ms := (fun _ _ => 12)) (As := [.int z0]) (rest := st) (MX1_isFixed g) rfl dL_isFixed_3 (by exact fun h => nomatch (show (none : Option Nat) = some 11 from h)) (by exact fun h => nomatch (show (none : Option Nat) = some 15 from h)) rfl rfl (by decide) (Nat.le_of_ble_eq_true rfl) (Nat.le_of_ble_eq_true rfl) rfl
theorem eL_isFixed_6 : WP (ML_isFixed g) Q (6, [l0, l1, l2, l3], .int a :: st, w, k, n) = if a = 0 then WP (ML_isFixed g) Q (13, [l0, l1, l2, l3], st, w, k, n) else WP (ML_isFixed g) Q (9, [l0, l1, l2, l3], st, w, k, n) := ifc_e (a = 0) rfl dL_isFixed_6 rfl (by decide)
theorem eL_isFixed_9 : WP (ML_isFixed g) Q (9, [l0, l1, l2, l3], st, w, k, n) = WP (ML_isFixed g) Q (10, [l0, l1, l2, l3], .long 1 :: st, w, k, n) := lconst_e rfl dL_isFixed_9 (by decide)
theorem eL_isFixed_10 : WP (ML_isFixed g) Q (10, [l0, l1, l2, l3], st, w, k, n) = WP (ML_isFixed g) Q (14, [l0, l1, l2, l3], st, w, k, n) := goto_e rfl dL_isFixed_10 (by decide)
theorem eL_isFixed_13 : WP (ML_isFixed g) Q (13, [l0, l1, l2, l3], st, w, k, n) = WP (ML_isFixed g) Q (14, [l0, l1, l2, l3], .long 0 :: st, w, k, n) := lconst_e rfl dL_isFixed_13 (by decide)
theorem eL_isFixed_14 : WP (ML_isFixed g) Q (14, [l0, l1, l2, l3], v :: .ref p :: st, w, k, n) = go (w p) 6 fun fs => 0 < fs.length ∧ (narrow (.long) v = v ∧ fits (.long) v = true) ∧ WP (ML_isFixed g) Q (17, [l0, l1, l2, l3], st, upw w p (.inr (6, fs.set 0 v)), k, n) := put_e (q := (RX2, TX2, 2)) rfl dL_isFixed_14 rfl rfl (tyX2_ok 0 (by decide)) (Or.inl rfl)
theorem eL_isFixed_17 : WP (ML_isFixed g) Q (17, [l0, l1, l2, l3], st, w, k, n) = WP (ML_isFixed g) Q (26, [l0, l1, l2, l3], st, w, k, n) := goto_e rfl dL_isFixed_17 (by decide)
theorem eL_isFixed_20 : WP (ML_isFixed g) Q (20, [l0, l1, l2, l3], .ref p :: st, w, k, n) = WP (ML_isFixed g) Q (21, [l0, l1, nl l2, some (.ref p)], st, w, k, n) := by rw [WP_at (M := (ML_isFixed g)) rfl dL_isFixed_20 (Or.inr rfl)]; exact and_t (Nat.le_of_ble_eq_true rfl)
theorem eL_isFixed_20N : WP (ML_isFixed g) Q (20, [l0, l1, l2, l3], .null :: st, w, k, n) = WP (ML_isFixed g) Q (21, [l0, l1, nl l2, some (.null)], st, w, k, n) := by rw [WP_at (M := (ML_isFixed g)) rfl dL_isFixed_20 (Or.inr rfl)]; exact and_t (Nat.le_of_ble_eq_true rfl)
theorem eL_isFixed_21 : WP (ML_isFixed g) Q (21, [l0, l1, l2, l3], st, w, k, n) = WP (ML_isFixed g) Q (22, [l0, l1, l2, l3], .int 1 :: st, w, k, n) := iconst_e rfl dL_isFixed_21 (by decide)
theorem eL_isFixed_22 : WP (ML_isFixed g) Q (22, [l0, l1, l2, l3], [.int a], w, k, n) = (k ≤ 2 ∧ n ≤ 12 ∧ Q (.inl (some (.int a))) w) := iretI_e rfl dL_isFixed_22 rfl
theorem eL_isFixed_23 : WP (ML_isFixed g) Q (23, [l0, l1, l2, l3], .ref p :: st, w, k, n) = WP (ML_isFixed g) Q (24, [l0, l1, nl l2, some (.ref p)], st, w, k, n) := by rw [WP_at (M := (ML_isFixed g)) rfl dL_isFixed_23 (Or.inr rfl)]; exact and_t (Nat.le_of_ble_eq_true rfl)
theorem eL_isFixed_23N : WP (ML_isFixed g) Q (23, [l0, l1, l2, l3], .null :: st, w, k, n) = WP (ML_isFixed g) Q (24, [l0, l1, nl l2, some (.null)], st, w, k, n) := by rw [WP_at (M := (ML_isFixed g)) rfl dL_isFixed_23 (Or.inr rfl)]; exact and_t (Nat.le_of_ble_eq_true rfl)
theorem eL_isFixed_24 : WP (ML_isFixed g) Q (24, [l0, l1, l2, l3], st, w, k, n) = WP (ML_isFixed g) Q (25, [l0, l1, l2, l3], .int 2 :: st, w, k, n) := iconst_e rfl dL_isFixed_24 (by decide)
theorem eL_isFixed_25 : WP (ML_isFixed g) Q (25, [l0, l1, l2, l3], [.int a], w, k, n) = (k ≤ 2 ∧ n ≤ 12 ∧ Q (.inl (some (.int a))) w) := iretI_e rfl dL_isFixed_25 rfl
theorem eL_isFixed_26 : WP (ML_isFixed g) Q (26, [l0, l1, l2, l3], st, w, k, n) = WP (ML_isFixed g) Q (27, [l0, l1, l2, l3], .int 0 :: st, w, k, n) := iconst_e rfl dL_isFixed_26 (by decide)
theorem eL_isFixed_27 : WP (ML_isFixed g) Q (27, [l0, l1, l2, l3], [.int a], w, k, n) = (k ≤ 2 ∧ n ≤ 12 ∧ Q (.inl (some (.int a))) w) := iretI_e rfl dL_isFixed_27 rfl
end
theorem wk_955 : (.code yX1_isFixed cX1_isFixed 2 (some .boolean) : Jvm.Cond) ∈ WS := WS_at 955 (by decide +kernel) rfl
theorem wk_952 : (.methodLink RL 99 yX1_isFixed : Jvm.Cond) ∈ WS := WS_at 952 (by decide +kernel) rfl
theorem wk_953 : (.instanceMethod yX1_isFixed : Jvm.Cond) ∈ WS := WS_at 953 (by decide +kernel) rfl
theorem wk_954 : (.selects RX1 yX1_isFixed yX1_isFixed : Jvm.Cond) ∈ WS := WS_at 954 (by decide +kernel) rfl
theorem vML_isFixed {l : Launch} (hl : l.stackTraces = false) (G : GT) : vM l G (ML_isFixed (gg G)) := ⟨fun i c j h => lookup_all (l := (ML_isFixed (gg G)).fld) (P := fun i e => vFld RL i e.1 e.2) (all_c (vF_RL_13) (all_n)) i (c, j) h, fun i c fs h => lookup_all (l := (ML_isFixed (gg G)).new) (P := fun i e => vNew RL i e.1 e.2) (all_n) i (c, fs) h, lookup_all (l := (ML_isFixed (gg G)).anew) (P := fun i e => vANew RL i e) (all_n), lookup_all (l := (ML_isFixed (gg G)).lng) (P := fun i e => Jvm.Cond.constantLong RL i e ∈ WS) (all_n), lookup_all (l := (ML_isFixed (gg G)).thr) (P := fun i e => vThr RL cL_isFixed i e) (all_n), fun h => absurd rfl h, lookup_all (l := (ML_isFixed (gg G)).cal) (P := fun i e => vCal l G RL i e) (all_c (⟨cX1_isFixed, 2, some .boolean, fun y hy => by subst hy; exact ⟨by decide, ⟨_, wk_955, okX1_isFixed hl, Or.inl ⟨Nat.ne_of_beq_eq_false rfl, rfl⟩⟩, wk_59, ⟨(by decide : yX1_isFixed.cls ≠ "java/lang/invoke/MethodHandle"), (by decide : yX1_isFixed.cls ≠ "java/lang/invoke/VarHandle")⟩, ⟨(by decide +kernel : (parseMethodDescriptor yX1_isFixed.desc).map (fun d => d.parameters.length + 1) = some 2), wk_952, wk_953, wk_954, (RX1, TX1, 7), rfl, rfl⟩⟩⟩) (all_n)), lookup_all (l := (ML_isFixed (gg G)).stt) (P := fun i e => vStt G RL i e) (all_n), lookup_all (l := (ML_isFixed (gg G)).cst) (P := fun i e => vCst RL i e) (all_n), fun h => absurd rfl h, rfl, all_c (⟨"java/lang/IndexOutOfBoundsException", by decide, rfl, by decide, wk_348⟩) (all_c (⟨"java/lang/IllegalStateException", by decide, rfl, by decide, wk_869⟩) (all_n))⟩
theorem okL_isFixed {l : Launch} (hl : l.stackTraces = false) {G : GT} : ∀ (args : List Value) (w : Hw) (S : Ot → Hw → Prop), spOf (ML_isFixed (gg G)) args w S → CX l G yL_isFixed (.codeWith yL_isFixed cL_isFixed 4 (some .int) [(0, 17, 20, 19), (0, 17, 23, 74)]) 9 2 12 args w S := CX_spH (M := ML_isFixed (gg G)) (y := yL_isFixed) hl (by decide) rfl (vML_isFixed hl G) (fun h => by cases h)
