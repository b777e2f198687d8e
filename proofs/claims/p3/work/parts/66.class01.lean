/-! Rangecard.refuse()I -/
theorem dX1_refuse_0 : decode cX1_refuse 0 = .ok (.aload_n 0, 1) := by decide +kernel
theorem dX1_refuse_1 : decode cX1_refuse 1 = .ok (.dup, 1) := by decide +kernel
theorem dX1_refuse_2 : decode cX1_refuse 2 = .ok (.getfield 26, 3) := by decide +kernel
theorem dX1_refuse_5 : decode cX1_refuse 5 = .ok (.iconst 1, 1) := by decide +kernel
theorem dX1_refuse_6 : decode cX1_refuse 6 = .ok (.iadd, 1) := by decide +kernel
theorem dX1_refuse_7 : decode cX1_refuse 7 = .ok (.putfield 26, 3) := by decide +kernel
theorem dX1_refuse_10 : decode cX1_refuse 10 = .ok (.bipush (-9), 2) := by decide +kernel
theorem dX1_refuse_12 : decode cX1_refuse 12 = .ok (.ireturn, 1) := by decide +kernel
def MX1_refuse (g : RO) : MT := ((RX1, cX1_refuse, 1, 1, 0, 0, false, some .int), [(26, 5, 4)], [], [], [], [], 0, [], [], [], 0, [], [], g)
section
variable {g : RO} {Q : Ot → Hw → Prop} {st : List Value} {w : Hw} {k n p q : Nat} {a b : Int32} {x y : Int64} {u v : Value} {l0 : Option Value}
theorem eX1_refuse_0 : WP (MX1_refuse g) Q (0, [some (.ref p)], st, w, k, n) = WP (MX1_refuse g) Q (1, [some (.ref p)], .ref p :: st, w, k, n) := Eq.trans (WP_at (M := (MX1_refuse g)) rfl dX1_refuse_0 (Or.inr rfl)) rfl
theorem eX1_refuse_0N : WP (MX1_refuse g) Q (0, [some .null], st, w, k, n) = WP (MX1_refuse g) Q (1, [some .null], .null :: st, w, k, n) := Eq.trans (WP_at (M := (MX1_refuse g)) rfl dX1_refuse_0 (Or.inr rfl)) rfl
theorem eX1_refuse_1 : WP (MX1_refuse g) Q (1, [l0], .int a :: st, w, k, n) = WP (MX1_refuse g) Q (2, [l0], .int a :: .int a :: st, w, k, n) := by rw [WP_at (M := (MX1_refuse g)) rfl dX1_refuse_1 (Or.inr rfl)]; exact and_t rfl
theorem eX1_refuse_1R : WP (MX1_refuse g) Q (1, [l0], .ref p :: st, w, k, n) = WP (MX1_refuse g) Q (2, [l0], .ref p :: .ref p :: st, w, k, n) := by rw [WP_at (M := (MX1_refuse g)) rfl dX1_refuse_1 (Or.inr rfl)]; exact and_t rfl
theorem eX1_refuse_2 : WP (MX1_refuse g) Q (2, [l0], .ref p :: st, w, k, n) = go (rd g w p) 5 fun fs => ∃ v, fs[4]? = some v ∧ WP (MX1_refuse g) Q (5, [l0], v :: st, w, k, n) := get_e rfl dX1_refuse_2 rfl
theorem eX1_refuse_5 : WP (MX1_refuse g) Q (5, [l0], st, w, k, n) = WP (MX1_refuse g) Q (6, [l0], .int 1 :: st, w, k, n) := iconst_e rfl dX1_refuse_5 (by decide)
theorem eX1_refuse_6 : WP (MX1_refuse g) Q (6, [l0], .int b :: .int a :: st, w, k, n) = WP (MX1_refuse g) Q (7, [l0], .int (a + b) :: st, w, k, n) := Eq.trans (WP_at (M := (MX1_refuse g)) rfl dX1_refuse_6 (Or.inr rfl)) rfl
theorem eX1_refuse_7 : WP (MX1_refuse g) Q (7, [l0], v :: .ref p :: st, w, k, n) = go (w p) 5 fun fs => 4 < fs.length ∧ (narrow (.int) v = v ∧ fits (.int) v = true) ∧ WP (MX1_refuse g) Q (10, [l0], st, upw w p (.inr (5, fs.set 4 v)), k, n) := put_e (q := (RX1, TX1, 7)) rfl dX1_refuse_7 rfl rfl (tyX1_ok 4 (by decide)) (Or.inl rfl)
theorem eX1_refuse_10 : WP (MX1_refuse g) Q (10, [l0], st, w, k, n) = WP (MX1_refuse g) Q (12, [l0], .int (-9) :: st, w, k, n) := bipush_e rfl dX1_refuse_10 (by decide)
theorem eX1_refuse_12 : WP (MX1_refuse g) Q (12, [l0], [.int a], w, k, n) = (k ≤ 0 ∧ n ≤ 0 ∧ Q (.inl (some (.int a))) w) := iretI_e rfl dX1_refuse_12 rfl
end
theorem wk_102 : (.fieldLink RX1 26 "Rangecard" "refusals" "I" : Jvm.Cond) ∈ WS := WS_at 102 (by decide +kernel) rfl
theorem vF_RX1_26 : vFld RX1 26 5 4 := ⟨RX1, TX1, 7, tyX1, "Rangecard", rfl, by decide, iW_5, tyX1_ok, nmX1, Or.inl rfl, Or.inl wk_102⟩
theorem vMX1_refuse {l : Launch} (hl : l.stackTraces = false) (G : GT) : vM l G (MX1_refuse (gg G)) := ⟨fun i c j h => lookup_all (l := (MX1_refuse (gg G)).fld) (P := fun i e => vFld RX1 i e.1 e.2) (all_c (vF_RX1_26) (all_n)) i (c, j) h, fun i c fs h => lookup_all (l := (MX1_refuse (gg G)).new) (P := fun i e => vNew RX1 i e.1 e.2) (all_n) i (c, fs) h, lookup_all (l := (MX1_refuse (gg G)).anew) (P := fun i e => vANew RX1 i e) (all_n), lookup_all (l := (MX1_refuse (gg G)).lng) (P := fun i e => Jvm.Cond.constantLong RX1 i e ∈ WS) (all_n), lookup_all (l := (MX1_refuse (gg G)).thr) (P := fun i e => vThr RX1 cX1_refuse i e) (all_n), fun h => absurd rfl h, lookup_all (l := (MX1_refuse (gg G)).cal) (P := fun i e => vCal l G RX1 i e) (all_n), lookup_all (l := (MX1_refuse (gg G)).stt) (P := fun i e => vStt G RX1 i e) (all_n), lookup_all (l := (MX1_refuse (gg G)).cst) (P := fun i e => vCst RX1 i e) (all_n), fun h => absurd rfl h, rfl, all_n⟩
theorem okX1_refuse {l : Launch} (hl : l.stackTraces = false) {G : GT} : ∀ (args : List Value) (w : Hw) (S : Ot → Hw → Prop), spOf (MX1_refuse (gg G)) args w S → CX l G yX1_refuse (.code yX1_refuse cX1_refuse 1 (some .int)) 1 0 0 args w S := CX_sp (M := MX1_refuse (gg G)) (y := yX1_refuse) hl (by decide) rfl (vMX1_refuse hl G) (fun h => by cases h) rfl
/-! Rangecard.give(ILRangecard$Range;)I -/
theorem dX1_give_0 : decode cX1_give 0 = .ok (.aload_n 2, 1) := by decide +kernel
theorem dX1_give_1 : decode cX1_give 1 = .ok (.ifnonnull 8, 3) := by decide +kernel
theorem dX1_give_4 : decode cX1_give 4 = .ok (.aload_n 0, 1) := by decide +kernel
theorem dX1_give_5 : decode cX1_give 5 = .ok (.invokevirtual 182, 3) := by decide +kernel
theorem dX1_give_8 : decode cX1_give 8 = .ok (.ireturn, 1) := by decide +kernel
theorem dX1_give_9 : decode cX1_give 9 = .ok (.aload_n 0, 1) := by decide +kernel
theorem dX1_give_10 : decode cX1_give 10 = .ok (.getfield 15, 3) := by decide +kernel
theorem dX1_give_13 : decode cX1_give 13 = .ok (.iload_n 1, 1) := by decide +kernel
theorem dX1_give_14 : decode cX1_give 14 = .ok (.aload_n 2, 1) := by decide +kernel
theorem dX1_give_15 : decode cX1_give 15 = .ok (.aastore, 1) := by decide +kernel
theorem dX1_give_16 : decode cX1_give 16 = .ok (.aload_n 0, 1) := by decide +kernel
theorem dX1_give_17 : decode cX1_give 17 = .ok (.dup, 1) := by decide +kernel
theorem dX1_give_18 : decode cX1_give 18 = .ok (.getfield 32, 3) := by decide +kernel
theorem dX1_give_21 : decode cX1_give 21 = .ok (.iconst 1, 1) := by decide +kernel
theorem dX1_give_22 : decode cX1_give 22 = .ok (.iadd, 1) := by decide +kernel
theorem dX1_give_23 : decode cX1_give 23 = .ok (.putfield 32, 3) := by decide +kernel
theorem dX1_give_26 : decode cX1_give 26 = .ok (.iconst 1, 1) := by decide +kernel
theorem dX1_give_27 : decode cX1_give 27 = .ok (.ireturn, 1) := by decide +kernel
def MX1_give (g : RO) : MT := ((RX1, cX1_give, 3, 2, 0, 0, false, some .int), [(15, 5, 1), (32, 5, 6)], [], [], [], [], 0, [(182, 2, 1, 5, 1, (fun _ _ => 0), (fun _ _ => 0), yX1_refuse, spOf (MX1_refuse g))], [], [], 0, [], [], g)
section
variable {g : RO} {Q : Ot → Hw → Prop} {st : List Value} {w : Hw} {k n p q : Nat} {a b : Int32} {x y : Int64} {u v : Value} {l0 l1 l2 : Option Value}
theorem eX1_give_0 : WP (MX1_give g) Q (0, [l0, l1, some (.ref p)], st, w, k, n) = WP (MX1_give g) Q (1, [l0, l1, some (.ref p)], .ref p :: st, w, k, n) := Eq.trans (WP_at (M := (MX1_give g)) rfl dX1_give_0 (Or.inr rfl)) rfl
theorem eX1_give_0N : WP (MX1_give g) Q (0, [l0, l1, some .null], st, w, k, n) = WP (MX1_give g) Q (1, [l0, l1, some .null], .null :: st, w, k, n) := Eq.trans (WP_at (M := (MX1_give g)) rfl dX1_give_0 (Or.inr rfl)) rfl
theorem eX1_give_1R : WP (MX1_give g) Q (1, [l0, l1, l2], .ref p :: st, w, k, n) = WP (MX1_give g) Q (9, [l0, l1, l2], st, w, k, n) := ifnonnullR_e rfl dX1_give_1 (tgt := 9) (by decide)
theorem eX1_give_1N : WP (MX1_give g) Q (1, [l0, l1, l2], .null :: st, w, k, n) = WP (MX1_give g) Q (4, [l0, l1, l2], st, w, k, n) := ifnonnullN_e rfl dX1_give_1 (tgt := 9) (by decide)
theorem eX1_give_4 : WP (MX1_give g) Q (4, [some (.ref p), l1, l2], st, w, k, n) = WP (MX1_give g) Q (5, [some (.ref p), l1, l2], .ref p :: st, w, k, n) := Eq.trans (WP_at (M := (MX1_give g)) rfl dX1_give_4 (Or.inr rfl)) rfl
theorem eX1_give_4N : WP (MX1_give g) Q (4, [some .null, l1, l2], st, w, k, n) = WP (MX1_give g) Q (5, [some .null, l1, l2], .null :: st, w, k, n) := Eq.trans (WP_at (M := (MX1_give g)) rfl dX1_give_4 (Or.inr rfl)) rfl
theorem eX1_give_5  : WP (MX1_give g) Q (5, [l0, l1, l2], .ref p :: st, w, k, n) = (go (rd g w p) 5 (fun _ => True) ∧ wt st ≤ 8 ∧ k + 0 ≤ 0 ∧ n + 0 ≤ 0 ∧ WP (MX1_refuse g) (kx (fun v w' => WP (MX1_give g) Q (8, [l0, l1, l2], v.toList ++ st, w', k + 0, n + 0)) (fun E w' => Q (.inr E) w')) (0, [some (.ref p)], [], w, 0, 0)) := csV (M := (MX1_give g)) (mc := (fun _ _ => 0)) (ms := (fun _ _ => 0)) (As := []) (rest := st) (MX1_refuse g) rfl rfl dX1_give_5 (by exact fun h => nomatch (show (none : Option Nat) = some 11 from h)) (by exact fun h => nomatch (show (none : Option Nat) = some 15 from h)) rfl rfl (by decide) (Nat.le_of_ble_eq_true rfl) (Nat.le_of_ble_eq_true rfl) rfl
theorem eX1_give_8 : WP (MX1_give g) Q (8, [l0, l1, l2], [.int a], w, k, n) = (k ≤ 0 ∧ n ≤ 0 ∧ Q (.inl (some (.int a))) w) := iretI_e rfl dX1_give_8 rfl
theorem eX1_give_9 : WP (MX1_give g) Q (9, [some (.ref p), l1, l2], st, w, k, n) = WP (MX1_give g) Q (10, [some (.ref p), l1, l2], .ref p :: st, w, k, n) := Eq.trans (WP_at (M := (MX1_give g)) rfl dX1_give_9 (Or.inr rfl)) rfl
theorem eX1_give_9N : WP (MX1_give g) Q (9, [some .null, l1, l2], st, w, k, n) = WP (MX1_give g) Q (10, [some .null, l1, l2], .null :: st, w, k, n) := Eq.trans (WP_at (M := (MX1_give g)) rfl dX1_give_9 (Or.inr rfl)) rfl
theorem eX1_give_10 : WP (MX1_give g) Q (10, [l0, l1, l2], .ref p :: st, w, k, n) = go (rd g w p) 5 fun fs => ∃ v, fs[1]? = some v ∧ WP (MX1_give g) Q (13, [l0, l1, l2], v :: st, w, k, n) := get_e rfl dX1_give_10 rfl
theorem eX1_give_13 : WP (MX1_give g) Q (13, [l0, some (.int a), l2], st, w, k, n) = WP (MX1_give g) Q (14, [l0, some (.int a), l2], .int a :: st, w, k, n) := Eq.trans (WP_at (M := (MX1_give g)) rfl dX1_give_13 (Or.inr rfl)) rfl
theorem eX1_give_14 : WP (MX1_give g) Q (14, [l0, l1, some (.ref p)], st, w, k, n) = WP (MX1_give g) Q (15, [l0, l1, some (.ref p)], .ref p :: st, w, k, n) := Eq.trans (WP_at (M := (MX1_give g)) rfl dX1_give_14 (Or.inr rfl)) rfl
theorem eX1_give_14N : WP (MX1_give g) Q (14, [l0, l1, some .null], st, w, k, n) = WP (MX1_give g) Q (15, [l0, l1, some .null], .null :: st, w, k, n) := Eq.trans (WP_at (M := (MX1_give g)) rfl dX1_give_14 (Or.inr rfl)) rfl
theorem eX1_give_15N : WP (MX1_give g) Q (15, [l0, l1, l2], .null :: .int a :: .ref p :: st, w, k, n) = gq (w p) fun t N f => vp_in a N ∧ (t = 4 ∨ t = 5) ∧ WP (MX1_give g) Q (16, [l0, l1, l2], st, upw w p (.inl (t, N, .inr (.inr (.inr (.inr (va_up f a.toNatClampNeg none)))))), k, n) := aastN_e rfl dX1_give_15
theorem eX1_give_15R : WP (MX1_give g) Q (15, [l0, l1, l2], .ref q :: .int a :: .ref p :: st, w, k, n) = gq (w p) fun t N f => vp_in a N ∧ ((t = 4 ∧ go (w q) 4 fun _ => True) ∨ (t = 5 ∧ gl (w q) 0 fun _ _ => True)) ∧ WP (MX1_give g) Q (16, [l0, l1, l2], st, upw w p (.inl (t, N, .inr (.inr (.inr (.inr (va_up f a.toNatClampNeg (some q))))))), k, n) := aastR_e rfl dX1_give_15
theorem eX1_give_16 : WP (MX1_give g) Q (16, [some (.ref p), l1, l2], st, w, k, n) = WP (MX1_give g) Q (17, [some (.ref p), l1, l2], .ref p :: st, w, k, n) := Eq.trans (WP_at (M := (MX1_give g)) rfl dX1_give_16 (Or.inr rfl)) rfl
theorem eX1_give_16N : WP (MX1_give g) Q (16, [some .null, l1, l2], st, w, k, n) = WP (MX1_give g) Q (17, [some .null, l1, l2], .null :: st, w, k, n) := Eq.trans (WP_at (M := (MX1_give g)) rfl dX1_give_16 (Or.inr rfl)) rfl
theorem eX1_give_17 : WP (MX1_give g) Q (17, [l0, l1, l2], .int a :: st, w, k, n) = WP (MX1_give g) Q (18, [l0, l1, l2], .int a :: .int a :: st, w, k, n) := by rw [WP_at (M := (MX1_give g)) rfl dX1_give_17 (Or.inr rfl)]; exact and_t rfl
theorem eX1_give_17R : WP (MX1_give g) Q (17, [l0, l1, l2], .ref p :: st, w, k, n) = WP (MX1_give g) Q (18, [l0, l1, l2], .ref p :: .ref p :: st, w, k, n) := by rw [WP_at (M := (MX1_give g)) rfl dX1_give_17 (Or.inr rfl)]; exact and_t rfl
theorem eX1_give_18 : WP (MX1_give g) Q (18, [l0, l1, l2], .ref p :: st, w, k, n) = go (rd g w p) 5 fun fs => ∃ v, fs[6]? = some v ∧ WP (MX1_give g) Q (21, [l0, l1, l2], v :: st, w, k, n) := get_e rfl dX1_give_18 rfl
theorem eX1_give_21 : WP (MX1_give g) Q (21, [l0, l1, l2], st, w, k, n) = WP (MX1_give g) Q (22, [l0, l1, l2], .int 1 :: st, w, k, n) := iconst_e rfl dX1_give_21 (by decide)
theorem eX1_give_22 : WP (MX1_give g) Q (22, [l0, l1, l2], .int b :: .int a :: st, w, k, n) = WP (MX1_give g) Q (23, [l0, l1, l2], .int (a + b) :: st, w, k, n) := Eq.trans (WP_at (M := (MX1_give g)) rfl dX1_give_22 (Or.inr rfl)) rfl
theorem eX1_give_23 : WP (MX1_give g) Q (23, [l0, l1, l2], v :: .ref p :: st, w, k, n) = go (w p) 5 fun fs => 6 < fs.length ∧ (narrow (.int) v = v ∧ fits (.int) v = true) ∧ WP (MX1_give g) Q (26, [l0, l1, l2], st, upw w p (.inr (5, fs.set 6 v)), k, n) := put_e (q := (RX1, TX1, 7)) rfl dX1_give_23 rfl rfl (tyX1_ok 6 (by decide)) (Or.inl rfl)
theorem eX1_give_26 : WP (MX1_give g) Q (26, [l0, l1, l2], st, w, k, n) = WP (MX1_give g) Q (27, [l0, l1, l2], .int 1 :: st, w, k, n) := iconst_e rfl dX1_give_26 (by decide)
theorem eX1_give_27 : WP (MX1_give g) Q (27, [l0, l1, l2], [.int a], w, k, n) = (k ≤ 0 ∧ n ≤ 0 ∧ Q (.inl (some (.int a))) w) := iretI_e rfl dX1_give_27 rfl
end
theorem wk_104 : (.fieldLink RX1 32 "Rangecard" "made" "I" : Jvm.Cond) ∈ WS := WS_at 104 (by decide +kernel) rfl
theorem vF_RX1_32 : vFld RX1 32 5 6 := ⟨RX1, TX1, 7, tyX1, "Rangecard", rfl, by decide, iW_5, tyX1_ok, nmX1, Or.inl rfl, Or.inl wk_104⟩
theorem wk_827 : (.code yX1_refuse cX1_refuse 1 (some .int) : Jvm.Cond) ∈ WS := WS_at 827 (by decide +kernel) rfl
theorem wk_824 : (.methodLink RX1 182 yX1_refuse : Jvm.Cond) ∈ WS := WS_at 824 (by decide +kernel) rfl
theorem wk_826 : (.instanceMethod yX1_refuse : Jvm.Cond) ∈ WS := WS_at 826 (by decide +kernel) rfl
theorem wk_30 : (.selects RX1 yX1_refuse yX1_refuse : Jvm.Cond) ∈ WS := WS_at 30 (by decide +kernel) rfl
theorem vMX1_give {l : Launch} (hl : l.stackTraces = false) (G : GT) : vM l G (MX1_give (gg G)) := ⟨fun i c j h => lookup_all (l := (MX1_give (gg G)).fld) (P := fun i e => vFld RX1 i e.1 e.2) (all_c (vF_RX1_15) (all_c (vF_RX1_32) (all_n))) i (c, j) h, fun i c fs h => lookup_all (l := (MX1_give (gg G)).new) (P := fun i e => vNew RX1 i e.1 e.2) (all_n) i (c, fs) h, lookup_all (l := (MX1_give (gg G)).anew) (P := fun i e => vANew RX1 i e) (all_n), lookup_all (l := (MX1_give (gg G)).lng) (P := fun i e => Jvm.Cond.constantLong RX1 i e ∈ WS) (all_n), lookup_all (l := (MX1_give (gg G)).thr) (P := fun i e => vThr RX1 cX1_give i e) (all_n), fun h => absurd rfl h, lookup_all (l := (MX1_give (gg G)).cal) (P := fun i e => vCal l G RX1 i e) (all_c (⟨cX1_refuse, 1, some .int, fun y hy => by subst hy; exact ⟨by decide, ⟨_, wk_827, okX1_refuse hl, Or.inl ⟨Nat.ne_of_beq_eq_false rfl, rfl⟩⟩, wk_59, ⟨(by decide : yX1_refuse.cls ≠ "java/lang/invoke/MethodHandle"), (by decide : yX1_refuse.cls ≠ "java/lang/invoke/VarHandle")⟩, ⟨(by decide +kernel : (parseMethodDescriptor yX1_refuse.desc).map (fun d => d.parameters.length + 1) = some 1), wk_824, wk_826, wk_30, (RX1, TX1, 7), rfl, rfl⟩⟩⟩) (all_n)), lookup_all (l := (MX1_give (gg G)).stt) (P := fun i e => vStt G RX1 i e) (all_n), lookup_all (l := (MX1_give (gg G)).cst) (P := fun i e => vCst RX1 i e) (all_n), fun h => absurd rfl h, rfl, all_n⟩
theorem okX1_give {l : Launch} (hl : l.stackTraces = false) {G : GT} : ∀ (args : List Value) (w : Hw) (S : Ot → Hw → Prop), spOf (MX1_give (gg G)) args w S → CX l G yX1_give (.code yX1_give cX1_give 3 (some .int)) 2 0 0 args w S := CX_sp (M := MX1_give (gg G)) (y := yX1_give) hl (by decide) rfl (vMX1_give hl G) (fun h => by cases h) rfl
/-! Rangecard.highOf(J)I -/
theorem dX1_highOf_0 : decode cX1_highOf 0 = .ok (.lload_n 0, 1) := by decide +kernel
theorem dX1_highOf_1 : decode cX1_highOf 1 = .ok (.bipush 32, 2) := by decide +kernel
theorem dX1_highOf_3 : decode cX1_highOf 3 = .ok (.lshr, 1) := by decide +kernel
theorem dX1_highOf_4 : decode cX1_highOf 4 = .ok (.l2i, 1) := by decide +kernel
theorem dX1_highOf_5 : decode cX1_highOf 5 = .ok (.ireturn, 1) := by decide +kernel
def MX1_highOf (g : RO) : MT := ((RX1, cX1_highOf, 2, 1, 0, 0, false, some .int), [], [], [], [], [], 0, [], [], [], 0, [], [], g)
section
variable {g : RO} {Q : Ot → Hw → Prop} {st : List Value} {w : Hw} {k n p q : Nat} {a b : Int32} {x y : Int64} {u v : Value} {l0 l1 : Option Value}
theorem eX1_highOf_0 : WP (MX1_highOf g) Q (0, [some (.long x), l1], st, w, k, n) = WP (MX1_highOf g) Q (1, [some (.long x), l1], .long x :: st, w, k, n) := Eq.trans (WP_at (M := (MX1_highOf g)) rfl dX1_highOf_0 (Or.inr rfl)) rfl
theorem eX1_highOf_1 : WP (MX1_highOf g) Q (1, [l0, l1], st, w, k, n) = WP (MX1_highOf g) Q (3, [l0, l1], .int 32 :: st, w, k, n) := bipush_e rfl dX1_highOf_1 (by decide)
theorem eX1_highOf_3 : WP (MX1_highOf g) Q (3, [l0, l1], .int b :: .long x :: st, w, k, n) = WP (MX1_highOf g) Q (4, [l0, l1], .long (x >>> (b.toInt64 &&& 63)) :: st, w, k, n) := Eq.trans (WP_at (M := (MX1_highOf g)) rfl dX1_highOf_3 (Or.inr rfl)) rfl
theorem eX1_highOf_4 : WP (MX1_highOf g) Q (4, [l0, l1], .long x :: st, w, k, n) = WP (MX1_highOf g) Q (5, [l0, l1], .int x.toInt32 :: st, w, k, n) := Eq.trans (WP_at (M := (MX1_highOf g)) rfl dX1_highOf_4 (Or.inr rfl)) rfl
theorem eX1_highOf_5 : WP (MX1_highOf g) Q (5, [l0, l1], [.int a], w, k, n) = (k ≤ 0 ∧ n ≤ 0 ∧ Q (.inl (some (.int a))) w) := iretI_e rfl dX1_highOf_5 rfl
end
theorem vMX1_highOf {l : Launch} (hl : l.stackTraces = false) (G : GT) : vM l G (MX1_highOf (gg G)) := ⟨fun i c j h => lookup_all (l := (MX1_highOf (gg G)).fld) (P := fun i e => vFld RX1 i e.1 e.2) (all_n) i (c, j) h, fun i c fs h => lookup_all (l := (MX1_highOf (gg G)).new) (P := fun i e => vNew RX1 i e.1 e.2) (all_n) i (c, fs) h, lookup_all (l := (MX1_highOf (gg G)).anew) (P := fun i e => vANew RX1 i e) (all_n), lookup_all (l := (MX1_highOf (gg G)).lng) (P := fun i e => Jvm.Cond.constantLong RX1 i e ∈ WS) (all_n), lookup_all (l := (MX1_highOf (gg G)).thr) (P := fun i e => vThr RX1 cX1_highOf i e) (all_n), fun h => absurd rfl h, lookup_all (l := (MX1_highOf (gg G)).cal) (P := fun i e => vCal l G RX1 i e) (all_n), lookup_all (l := (MX1_highOf (gg G)).stt) (P := fun i e => vStt G RX1 i e) (all_n), lookup_all (l := (MX1_highOf (gg G)).cst) (P := fun i e => vCst RX1 i e) (all_n), fun h => absurd rfl h, rfl, all_n⟩
theorem okX1_highOf {l : Launch} (hl : l.stackTraces = false) {G : GT} : ∀ (args : List Value) (w : Hw) (S : Ot → Hw → Prop), spOf (MX1_highOf (gg G)) args w S → CX l G yX1_highOf (.code yX1_highOf cX1_highOf 2 (some .int)) 1 0 0 args w S := CX_sp (M := MX1_highOf (gg G)) (y := yX1_highOf) hl (by decide) rfl (vMX1_highOf hl G) (fun h => by cases h) rfl
/-! Rangecard.lowOf(J)I -/
theorem dX1_lowOf_0 : decode cX1_lowOf 0 = .ok (.lload_n 0, 1) := by decide +kernel
theorem dX1_lowOf_1 : decode cX1_lowOf 1 = .ok (.l2i, 1) := by decide +kernel
theorem dX1_lowOf_2 : decode cX1_lowOf 2 = .ok (.ireturn, 1) := by decide +kernel
def MX1_lowOf (g : RO) : MT := ((RX1, cX1_lowOf, 2, 1, 0, 0, false, some .int), [], [], [], [], [], 0, [], [], [], 0, [], [], g)
section
variable {g : RO} {Q : Ot → Hw → Prop} {st : List Value} {w : Hw} {k n p q : Nat} {a b : Int32} {x y : Int64} {u v : Value} {l0 l1 : Option Value}
theorem eX1_lowOf_0 : WP (MX1_lowOf g) Q (0, [some (.long x), l1], st, w, k, n) = WP (MX1_lowOf g) Q (1, [some (.long x), l1], .long x :: st, w, k, n) := Eq.trans (WP_at (M := (MX1_lowOf g)) rfl dX1_lowOf_0 (Or.inr rfl)) rfl
theorem eX1_lowOf_1 : WP (MX1_lowOf g) Q (1, [l0, l1], .long x :: st, w, k, n) = WP (MX1_lowOf g) Q (2, [l0, l1], .int x.toInt32 :: st, w, k, n) := Eq.trans (WP_at (M := (MX1_lowOf g)) rfl dX1_lowOf_1 (Or.inr rfl)) rfl
theorem eX1_lowOf_2 : WP (MX1_lowOf g) Q (2, [l0, l1], [.int a], w, k, n) = (k ≤ 0 ∧ n ≤ 0 ∧ Q (.inl (some (.int a))) w) := iretI_e rfl dX1_lowOf_2 rfl
end
theorem vMX1_lowOf {l : Launch} (hl : l.stackTraces = false) (G : GT) : vM l G (MX1_lowOf (gg G)) := ⟨fun i c j h => lookup_all (l := (MX1_lowOf (gg G)).fld) (P := fun i e => vFld RX1 i e.1 e.2) (all_n) i (c, j) h, fun i c fs h => lookup_all (l := (MX1_lowOf (gg G)).new) (P := fun i e => vNew RX1 i e.1 e.2) (all_n) i (c, fs) h, lookup_all (l := (MX1_lowOf (gg G)).anew) (P := fun i e => vANew RX1 i e) (all_n), lookup_all (l := (MX1_lowOf (gg G)).lng) (P := fun i e => Jvm.Cond.constantLong RX1 i e ∈ WS) (all_n), lookup_all (l := (MX1_lowOf (gg G)).thr) (P := fun i e => vThr RX1 cX1_lowOf i e) (all_n), fun h => absurd rfl h, lookup_all (l := (MX1_lowOf (gg G)).cal) (P := fun i e => vCal l G RX1 i e) (all_n), lookup_all (l := (MX1_lowOf (gg G)).stt) (P := fun i e => vStt G RX1 i e) (all_n), lookup_all (l := (MX1_lowOf (gg G)).cst) (P := fun i e => vCst RX1 i e) (all_n), fun h => absurd rfl h, rfl, all_n⟩
theorem okX1_lowOf {l : Launch} (hl : l.stackTraces = false) {G : GT} : ∀ (args : List Value) (w : Hw) (S : Ot → Hw → Prop), spOf (MX1_lowOf (gg G)) args w S → CX l G yX1_lowOf (.code yX1_lowOf cX1_lowOf 2 (some .int)) 1 0 0 args w S := CX_sp (M := MX1_lowOf (gg G)) (y := yX1_lowOf) hl (by decide) rfl (vMX1_lowOf hl G) (fun h => by cases h) rfl
/-! Rangecard.halfOf(JZ)I -/
theorem dX1_halfOf_0 : decode cX1_halfOf 0 = .ok (.iload_n 2, 1) := by decide +kernel
theorem dX1_halfOf_1 : decode cX1_halfOf 1 = .ok (.ifCond .eq 10, 3) := by decide +kernel
theorem dX1_halfOf_4 : decode cX1_halfOf 4 = .ok (.lload_n 0, 1) := by decide +kernel
theorem dX1_halfOf_5 : decode cX1_halfOf 5 = .ok (.invokestatic 39, 3) := by decide +kernel
theorem dX1_halfOf_8 : decode cX1_halfOf 8 = .ok (.goto 7, 3) := by decide +kernel
theorem dX1_halfOf_11 : decode cX1_halfOf 11 = .ok (.lload_n 0, 1) := by decide +kernel
theorem dX1_halfOf_12 : decode cX1_halfOf 12 = .ok (.invokestatic 45, 3) := by decide +kernel
theorem dX1_halfOf_15 : decode cX1_halfOf 15 = .ok (.ireturn, 1) := by decide +kernel
def MX1_halfOf (g : RO) : MT := ((RX1, cX1_halfOf, 3, 2, 0, 0, false, some .int), [], [], [], [], [], 0, [(39, 0, 1, 0, 1, (fun _ _ => 0), (fun _ _ => 0), yX1_highOf, spOf (MX1_highOf g)), (45, 0, 1, 0, 1, (fun _ _ => 0), (fun _ _ => 0), yX1_lowOf, spOf (MX1_lowOf g))], [], [], 0, [], [], g)
section
variable {g : RO} {Q : Ot → Hw → Prop} {st : List Value} {w : Hw} {k n p q : Nat} {a b : Int32} {x y : Int64} {u v : Value} {l0 l1 l2 : Option Value}
theorem eX1_halfOf_0 : WP (MX1_halfOf g) Q (0, [l0, l1, some (.int a)], st, w, k, n) = WP (MX1_halfOf g) Q (1, [l0, l1, some (.int a)], .int a :: st, w, k, n) := Eq.trans (WP_at (M := (MX1_halfOf g)) rfl dX1_halfOf_0 (Or.inr rfl)) rfl
theorem eX1_halfOf_1 : WP (MX1_halfOf g) Q (1, [l0, l1, l2], .int a :: st, w, k, n) = if a = 0 then WP (MX1_halfOf g) Q (11, [l0, l1, l2], st, w, k, n) else WP (MX1_halfOf g) Q (4, [l0, l1, l2], st, w, k, n) := ifc_e (a = 0) rfl dX1_halfOf_1 rfl (by decide)
theorem eX1_halfOf_4 : WP (MX1_halfOf g) Q (4, [some (.long x), l1, l2], st, w, k, n) = WP (MX1_halfOf g) Q (5, [some (.long x), l1, l2], .long x :: st, w, k, n) := Eq.trans (WP_at (M := (MX1_halfOf g)) rfl dX1_halfOf_4 (Or.inr rfl)) rfl
theorem eX1_halfOf_5 {z0 : Int64} : WP (MX1_halfOf g) Q (5, [l0, l1, l2], .long z0 :: st, w, k, n) = (wt st ≤ 8 ∧ k + 0 ≤ 0 ∧ n + 0 ≤ 0 ∧ WP (MX1_highOf g) (kx (fun v w' => WP (MX1_halfOf g) Q (8, [l0, l1, l2], v.toList ++ st, w', k + 0, n + 0)) (fun E w' => Q (.inr E) w')) (0, [some (.long z0), none], [], w, 0, 0)) := csS (M := (MX1_halfOf g)) (mc := (fun _ _ => 0)) (ms := (fun _ _ => 0)) (As := [.long z0]) (rest := st) (MX1_highOf g) rfl rfl dX1_halfOf_5 (Nat.ne_of_beq_eq_false rfl) (by exact fun h => nomatch (show (none : Option Nat) = some 12 from h)) (by exact fun h => nomatch (show (none : Option Nat) = some 13 from h)) (by exact fun h => nomatch (show (none : Option Nat) = some 14 from h)) rfl rfl (by decide) (Nat.le_of_ble_eq_true rfl) (Nat.le_of_ble_eq_true rfl) rfl
theorem eX1_halfOf_8 : WP (MX1_halfOf g) Q (8, [l0, l1, l2], st, w, k, n) = WP (MX1_halfOf g) Q (15, [l0, l1, l2], st, w, k, n) := goto_e rfl dX1_halfOf_8 (by decide)
theorem eX1_halfOf_11 : WP (MX1_halfOf g) Q (11, [some (.long x), l1, l2], st, w, k, n) = WP (MX1_halfOf g) Q (12, [some (.long x), l1, l2], .long x :: st, w, k, n) := Eq.trans (WP_at (M := (MX1_halfOf g)) rfl dX1_halfOf_11 (Or.inr rfl)) rfl
theorem eX1_halfOf_12 {z0 : Int64} : WP (MX1_halfOf g) Q (12, [l0, l1, l2], .long z0 :: st, w, k, n) = (wt st ≤ 8 ∧ k + 0 ≤ 0 ∧ n + 0 ≤ 0 ∧ WP (MX1_lowOf g) (kx (fun v w' => WP (MX1_halfOf g) Q (15, [l0, l1, l2], v.toList ++ st, w', k + 0, n + 0)) (fun E w' => Q (.inr E) w')) (0, [some (.long z0), none], [], w, 0, 0)) := csS (M := (MX1_halfOf g)) (mc := (fun _ _ => 0)) (ms := (fun _ _ => 0)) (As := [.long z0]) (rest := st) (MX1_lowOf g) rfl rfl dX1_halfOf_12 (Nat.ne_of_beq_eq_false rfl) (by exact fun h => nomatch (show (none : Option Nat) = some 12 from h)) (by exact fun h => nomatch (show (none : Option Nat) = some 13 from h)) (by exact fun h => nomatch (show (none : Option Nat) = some 14 from h)) rfl rfl (by decide) (Nat.le_of_ble_eq_true rfl) (Nat.le_of_ble_eq_true rfl) rfl
theorem eX1_halfOf_15 : WP (MX1_halfOf g) Q (15, [l0, l1, l2], [.int a], w, k, n) = (k ≤ 0 ∧ n ≤ 0 ∧ Q (.inl (some (.int a))) w) := iretI_e rfl dX1_halfOf_15 rfl
end
theorem wk_274 : (.code yX1_highOf cX1_highOf 2 (some .int) : Jvm.Cond) ∈ WS := WS_at 274 (by decide +kernel) rfl
theorem wk_272 : (.methodLink RX1 39 yX1_highOf : Jvm.Cond) ∈ WS := WS_at 272 (by decide +kernel) rfl
theorem wk_273 : (.static yX1_highOf : Jvm.Cond) ∈ WS := WS_at 273 (by decide +kernel) rfl
theorem wk_277 : (.code yX1_lowOf cX1_lowOf 2 (some .int) : Jvm.Cond) ∈ WS := WS_at 277 (by decide +kernel) rfl
theorem wk_275 : (.methodLink RX1 45 yX1_lowOf : Jvm.Cond) ∈ WS := WS_at 275 (by decide +kernel) rfl
theorem wk_276 : (.static yX1_lowOf : Jvm.Cond) ∈ WS := WS_at 276 (by decide +kernel) rfl
theorem vMX1_halfOf {l : Launch} (hl : l.stackTraces = false) (G : GT) : vM l G (MX1_halfOf (gg G)) := ⟨fun i c j h => lookup_all (l := (MX1_halfOf (gg G)).fld) (P := fun i e => vFld RX1 i e.1 e.2) (all_n) i (c, j) h, fun i c fs h => lookup_all (l := (MX1_halfOf (gg G)).new) (P := fun i e => vNew RX1 i e.1 e.2) (all_n) i (c, fs) h, lookup_all (l := (MX1_halfOf (gg G)).anew) (P := fun i e => vANew RX1 i e) (all_n), lookup_all (l := (MX1_halfOf (gg G)).lng) (P := fun i e => Jvm.Cond.constantLong RX1 i e ∈ WS) (all_n), lookup_all (l := (MX1_halfOf (gg G)).thr) (P := fun i e => vThr RX1 cX1_halfOf i e) (all_n), fun h => absurd rfl h, lookup_all (l := (MX1_halfOf (gg G)).cal) (P := fun i e => vCal l G RX1 i e) (all_c (⟨cX1_highOf, 2, some .int, fun y hy => by subst hy; exact ⟨by decide, ⟨_, wk_274, okX1_highOf hl, Or.inl ⟨Nat.ne_of_beq_eq_false rfl, rfl⟩⟩, wk_59, ⟨(by decide : yX1_highOf.cls ≠ "java/lang/invoke/MethodHandle"), (by decide : yX1_highOf.cls ≠ "java/lang/invoke/VarHandle")⟩, ⟨(by decide +kernel : (parseMethodDescriptor yX1_highOf.desc).map (fun d => d.parameters.length) = some 1), wk_272, wk_273⟩⟩⟩) (all_c (⟨cX1_lowOf, 2, some .int, fun y hy => by subst hy; exact ⟨by decide, ⟨_, wk_277, okX1_lowOf hl, Or.inl ⟨Nat.ne_of_beq_eq_false rfl, rfl⟩⟩, wk_59, ⟨(by decide : yX1_lowOf.cls ≠ "java/lang/invoke/MethodHandle"), (by decide : yX1_lowOf.cls ≠ "java/lang/invoke/VarHandle")⟩, ⟨(by decide +kernel : (parseMethodDescriptor yX1_lowOf.desc).map (fun d => d.parameters.length) = some 1), wk_275, wk_276⟩⟩⟩) (all_n))), lookup_all (l := (MX1_halfOf (gg G)).stt) (P := fun i e => vStt G RX1 i e) (all_n), lookup_all (l := (MX1_halfOf (gg G)).cst) (P := fun i e => vCst RX1 i e) (all_n), fun h => absurd rfl h, rfl, all_n⟩
theorem okX1_halfOf {l : Launch} (hl : l.stackTraces = false) {G : GT} : ∀ (args : List Value) (w : Hw) (S : Ot → Hw → Prop), spOf (MX1_halfOf (gg G)) args w S → CX l G yX1_halfOf (.code yX1_halfOf cX1_halfOf 3 (some .int)) 2 0 0 args w S := CX_sp (M := MX1_halfOf (gg G)) (y := yX1_halfOf) hl (by decide) rfl (vMX1_halfOf hl G) (fun h => by cases h) rfl
