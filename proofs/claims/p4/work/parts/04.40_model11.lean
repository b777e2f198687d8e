/-! 40.model11.lean.txt -/
section
/-! RangecardModel.lay(I)I -/
theorem dX3_lay_0 : decode cX3_lay 0 = .ok (.aload_n 0, 1) := by decide +kernel
theorem dX3_lay_1 : decode cX3_lay 1 = .ok (.iload_n 1, 1) := by decide +kernel
theorem dX3_lay_2 : decode cX3_lay 2 = .ok (.invokevirtual 134, 3) := by decide +kernel
theorem dX3_lay_5 : decode cX3_lay 5 = .ok (.ifCond .eq 5, 3) := by decide +kernel
theorem dX3_lay_8 : decode cX3_lay 8 = .ok (.iconst 0, 1) := by decide +kernel
theorem dX3_lay_9 : decode cX3_lay 9 = .ok (.ireturn, 1) := by decide +kernel
theorem dX3_lay_10 : decode cX3_lay 10 = .ok (.aload_n 0, 1) := by decide +kernel
theorem dX3_lay_11 : decode cX3_lay 11 = .ok (.getfield 20, 3) := by decide +kernel
theorem dX3_lay_14 : decode cX3_lay 14 = .ok (.invokevirtual 174, 3) := by decide +kernel
theorem dX3_lay_17 : decode cX3_lay 17 = .ok (.bipush 12, 2) := by decide +kernel
theorem dX3_lay_19 : decode cX3_lay 19 = .ok (.if_icmp .ne 8, 3) := by decide +kernel
theorem dX3_lay_22 : decode cX3_lay 22 = .ok (.aload_n 0, 1) := by decide +kernel
theorem dX3_lay_23 : decode cX3_lay 23 = .ok (.invokevirtual 100, 3) := by decide +kernel
theorem dX3_lay_26 : decode cX3_lay 26 = .ok (.ireturn, 1) := by decide +kernel
theorem dX3_lay_27 : decode cX3_lay 27 = .ok (.aload_n 0, 1) := by decide +kernel
theorem dX3_lay_28 : decode cX3_lay 28 = .ok (.getfield 20, 3) := by decide +kernel
theorem dX3_lay_31 : decode cX3_lay 31 = .ok (.aload_n 0, 1) := by decide +kernel
theorem dX3_lay_32 : decode cX3_lay 32 = .ok (.getfield 16, 3) := by decide +kernel
theorem dX3_lay_35 : decode cX3_lay 35 = .ok (.iload_n 1, 1) := by decide +kernel
theorem dX3_lay_36 : decode cX3_lay 36 = .ok (.invokevirtual 42, 3) := by decide +kernel
theorem dX3_lay_39 : decode cX3_lay 39 = .ok (.checkcast 125, 3) := by decide +kernel
theorem dX3_lay_42 : decode cX3_lay 42 = .ok (.invokevirtual 23, 3) := by decide +kernel
theorem dX3_lay_45 : decode cX3_lay 45 = .ok (.pop, 1) := by decide +kernel
theorem dX3_lay_46 : decode cX3_lay 46 = .ok (.aload_n 0, 1) := by decide +kernel
theorem dX3_lay_47 : decode cX3_lay 47 = .ok (.getfield 20, 3) := by decide +kernel
theorem dX3_lay_50 : decode cX3_lay 50 = .ok (.invokevirtual 174, 3) := by decide +kernel
theorem dX3_lay_53 : decode cX3_lay 53 = .ok (.ireturn, 1) := by decide +kernel
def MX3_lay (g : RO) : MT := ((RX3, cX3_lay, 2, 7, 1, 15, false, some .int), [(20, 7, 3), (16, 7, 2)], [], [], [], [], 0, [(134, 2, 2, 7, 5, (fun _ _ => 0), (fun _ _ => 0), yX3_isNone, spOf (MX3_isNone g)), (174, 2, 1, 3, 1, (fun _ _ => 0), (fun _ _ => 0), yJx4a65c_size_8abf5, spOf (MJx4a65c_size_8abf5 g)), (100, 2, 1, 7, 1, (fun _ _ => 0), (fun _ _ => 0), yX3_no, spOf (MX3_no g)), (42, 2, 2, 3, 3, (fun _ _ => 0), (fun _ _ => 0), yJx4a65c_get_915e3, spOf (MJx4a65c_get_915e3 g)), (23, 2, 2, 3, 6, (fun _ _ => 1), (fun _ _ => 15), yJx4a65c_add_9ea2d, spOf (MJx4a65c_add_9ea2d g))], [], [(125, 0)], 0, [], [], g)
section
variable {g : RO} {Q : Ot → Hw → Prop} {st : List Value} {w : Hw} {k n p q : Nat} {a b : Int32} {x y : Int64} {u v : Value} {l0 l1 : Option Value}
theorem eX3_lay_0 : WP (MX3_lay g) Q (0, [some (.ref p), l1], st, w, k, n) = WP (MX3_lay g) Q (1, [some (.ref p), l1], .ref p :: st, w, k, n) := Eq.trans (WP_at (M := (MX3_lay g)) rfl dX3_lay_0 (Or.inr rfl)) rfl
theorem eX3_lay_0N : WP (MX3_lay g) Q (0, [some .null, l1], st, w, k, n) = WP (MX3_lay g) Q (1, [some .null, l1], .null :: st, w, k, n) := Eq.trans (WP_at (M := (MX3_lay g)) rfl dX3_lay_0 (Or.inr rfl)) rfl
theorem eX3_lay_1 : WP (MX3_lay g) Q (1, [l0, some (.int a)], st, w, k, n) = WP (MX3_lay g) Q (2, [l0, some (.int a)], .int a :: st, w, k, n) := Eq.trans (WP_at (M := (MX3_lay g)) rfl dX3_lay_1 (Or.inr rfl)) rfl
theorem eX3_lay_2 {z0 : Int32} : WP (MX3_lay g) Q (2, [l0, l1], .int z0 :: .ref p :: st, w, k, n) = (go (rd g w p) 7 (fun _ => True) ∧ wt st ≤ 8 ∧ k + 0 ≤ 1 ∧ n + 0 ≤ 15 ∧ WP (MX3_isNone g) (kx (fun v w' => WP (MX3_lay g) Q (5, [l0, l1], v.toList ++ st, w', k + 0, n + 0)) (fun E w' => Q (.inr E) w')) (0, [some (.ref p), some (.int z0)], [], w, 0, 0)) := csV (M := (MX3_lay g)) (mc := (fun _ _ => 0)) (ms := (fun _ _ => 0)) (As := [.int z0]) (rest := st) (MX3_isNone g) rfl rfl dX3_lay_2 (by exact fun h => nomatch (show (none : Option Nat) = some 11 from h)) (by exact fun h => nomatch (show (none : Option Nat) = some 15 from h)) rfl rfl (by decide) (Nat.le_of_ble_eq_true rfl) (Nat.le_of_ble_eq_true rfl) rfl
theorem eX3_lay_5 : WP (MX3_lay g) Q (5, [l0, l1], .int a :: st, w, k, n) = if a = 0 then WP (MX3_lay g) Q (10, [l0, l1], st, w, k, n) else WP (MX3_lay g) Q (8, [l0, l1], st, w, k, n) := ifc_e (a = 0) rfl dX3_lay_5 rfl (by decide)
theorem eX3_lay_8 : WP (MX3_lay g) Q (8, [l0, l1], st, w, k, n) = WP (MX3_lay g) Q (9, [l0, l1], .int 0 :: st, w, k, n) := iconst_e rfl dX3_lay_8 (by decide)
theorem eX3_lay_9 : WP (MX3_lay g) Q (9, [l0, l1], [.int a], w, k, n) = (k ≤ 1 ∧ n ≤ 15 ∧ Q (.inl (some (.int a))) w) := iretI_e rfl dX3_lay_9 rfl
theorem eX3_lay_10 : WP (MX3_lay g) Q (10, [some (.ref p), l1], st, w, k, n) = WP (MX3_lay g) Q (11, [some (.ref p), l1], .ref p :: st, w, k, n) := Eq.trans (WP_at (M := (MX3_lay g)) rfl dX3_lay_10 (Or.inr rfl)) rfl
theorem eX3_lay_10N : WP (MX3_lay g) Q (10, [some .null, l1], st, w, k, n) = WP (MX3_lay g) Q (11, [some .null, l1], .null :: st, w, k, n) := Eq.trans (WP_at (M := (MX3_lay g)) rfl dX3_lay_10 (Or.inr rfl)) rfl
theorem eX3_lay_11 : WP (MX3_lay g) Q (11, [l0, l1], .ref p :: st, w, k, n) = go (rd g w p) 7 fun fs => ∃ v, fs[3]? = some v ∧ WP (MX3_lay g) Q (14, [l0, l1], v :: st, w, k, n) := get_e rfl dX3_lay_11 rfl
theorem eX3_lay_14  : WP (MX3_lay g) Q (14, [l0, l1], .ref p :: st, w, k, n) = (go (rd g w p) 3 (fun _ => True) ∧ wt st ≤ 8 ∧ k + 0 ≤ 1 ∧ n + 0 ≤ 15 ∧ WP (MJx4a65c_size_8abf5 g) (kx (fun v w' => WP (MX3_lay g) Q (17, [l0, l1], v.toList ++ st, w', k + 0, n + 0)) (fun E w' => Q (.inr E) w')) (0, [some (.ref p)], [], w, 0, 0)) := csV (M := (MX3_lay g)) (mc := (fun _ _ => 0)) (ms := (fun _ _ => 0)) (As := []) (rest := st) (MJx4a65c_size_8abf5 g) rfl rfl dX3_lay_14 (by exact fun h => nomatch (show (none : Option Nat) = some 11 from h)) (by exact fun h => nomatch (show (none : Option Nat) = some 15 from h)) rfl rfl (by decide) (Nat.le_of_ble_eq_true rfl) (Nat.le_of_ble_eq_true rfl) rfl
theorem eX3_lay_17 : WP (MX3_lay g) Q (17, [l0, l1], st, w, k, n) = WP (MX3_lay g) Q (19, [l0, l1], .int 12 :: st, w, k, n) := bipush_e rfl dX3_lay_17 (by decide)
theorem eX3_lay_19 : WP (MX3_lay g) Q (19, [l0, l1], .int b :: .int a :: st, w, k, n) = if a = b then WP (MX3_lay g) Q (22, [l0, l1], st, w, k, n) else WP (MX3_lay g) Q (27, [l0, l1], st, w, k, n) := icmn_e (a = b) rfl dX3_lay_19 rfl (by decide)
theorem eX3_lay_22 : WP (MX3_lay g) Q (22, [some (.ref p), l1], st, w, k, n) = WP (MX3_lay g) Q (23, [some (.ref p), l1], .ref p :: st, w, k, n) := Eq.trans (WP_at (M := (MX3_lay g)) rfl dX3_lay_22 (Or.inr rfl)) rfl
theorem eX3_lay_22N : WP (MX3_lay g) Q (22, [some .null, l1], st, w, k, n) = WP (MX3_lay g) Q (23, [some .null, l1], .null :: st, w, k, n) := Eq.trans (WP_at (M := (MX3_lay g)) rfl dX3_lay_22 (Or.inr rfl)) rfl
theorem eX3_lay_23  : WP (MX3_lay g) Q (23, [l0, l1], .ref p :: st, w, k, n) = (go (rd g w p) 7 (fun _ => True) ∧ wt st ≤ 8 ∧ k + 0 ≤ 1 ∧ n + 0 ≤ 15 ∧ WP (MX3_no g) (kx (fun v w' => WP (MX3_lay g) Q (26, [l0, l1], v.toList ++ st, w', k + 0, n + 0)) (fun E w' => Q (.inr E) w')) (0, [some (.ref p)], [], w, 0, 0)) := csV (M := (MX3_lay g)) (mc := (fun _ _ => 0)) (ms := (fun _ _ => 0)) (As := []) (rest := st) (MX3_no g) rfl rfl dX3_lay_23 (by exact fun h => nomatch (show (none : Option Nat) = some 11 from h)) (by exact fun h => nomatch (show (none : Option Nat) = some 15 from h)) rfl rfl (by decide) (Nat.le_of_ble_eq_true rfl) (Nat.le_of_ble_eq_true rfl) rfl
theorem eX3_lay_26 : WP (MX3_lay g) Q (26, [l0, l1], [.int a], w, k, n) = (k ≤ 1 ∧ n ≤ 15 ∧ Q (.inl (some (.int a))) w) := iretI_e rfl dX3_lay_26 rfl
theorem eX3_lay_27 : WP (MX3_lay g) Q (27, [some (.ref p), l1], st, w, k, n) = WP (MX3_lay g) Q (28, [some (.ref p), l1], .ref p :: st, w, k, n) := Eq.trans (WP_at (M := (MX3_lay g)) rfl dX3_lay_27 (Or.inr rfl)) rfl
theorem eX3_lay_27N : WP (MX3_lay g) Q (27, [some .null, l1], st, w, k, n) = WP (MX3_lay g) Q (28, [some .null, l1], .null :: st, w, k, n) := Eq.trans (WP_at (M := (MX3_lay g)) rfl dX3_lay_27 (Or.inr rfl)) rfl
theorem eX3_lay_28 : WP (MX3_lay g) Q (28, [l0, l1], .ref p :: st, w, k, n) = go (rd g w p) 7 fun fs => ∃ v, fs[3]? = some v ∧ WP (MX3_lay g) Q (31, [l0, l1], v :: st, w, k, n) := get_e rfl dX3_lay_28 rfl
theorem eX3_lay_31 : WP (MX3_lay g) Q (31, [some (.ref p), l1], st, w, k, n) = WP (MX3_lay g) Q (32, [some (.ref p), l1], .ref p :: st, w, k, n) := Eq.trans (WP_at (M := (MX3_lay g)) rfl dX3_lay_31 (Or.inr rfl)) rfl
theorem eX3_lay_31N : WP (MX3_lay g) Q (31, [some .null, l1], st, w, k, n) = WP (MX3_lay g) Q (32, [some .null, l1], .null :: st, w, k, n) := Eq.trans (WP_at (M := (MX3_lay g)) rfl dX3_lay_31 (Or.inr rfl)) rfl
theorem eX3_lay_32 : WP (MX3_lay g) Q (32, [l0, l1], .ref p :: st, w, k, n) = go (rd g w p) 7 fun fs => ∃ v, fs[2]? = some v ∧ WP (MX3_lay g) Q (35, [l0, l1], v :: st, w, k, n) := get_e rfl dX3_lay_32 rfl
theorem eX3_lay_35 : WP (MX3_lay g) Q (35, [l0, some (.int a)], st, w, k, n) = WP (MX3_lay g) Q (36, [l0, some (.int a)], .int a :: st, w, k, n) := Eq.trans (WP_at (M := (MX3_lay g)) rfl dX3_lay_35 (Or.inr rfl)) rfl
theorem eX3_lay_36 {z0 : Int32} : WP (MX3_lay g) Q (36, [l0, l1], .int z0 :: .ref p :: st, w, k, n) = (go (rd g w p) 3 (fun _ => True) ∧ wt st ≤ 8 ∧ k + 0 ≤ 1 ∧ n + 0 ≤ 15 ∧ WP (MJx4a65c_get_915e3 g) (kx (fun v w' => WP (MX3_lay g) Q (39, [l0, l1], v.toList ++ st, w', k + 0, n + 0)) (fun E w' => Q (.inr E) w')) (0, [some (.ref p), some (.int z0)], [], w, 0, 0)) := csV (M := (MX3_lay g)) (mc := (fun _ _ => 0)) (ms := (fun _ _ => 0)) (As := [.int z0]) (rest := st) (MJx4a65c_get_915e3 g) rfl rfl dX3_lay_36 (by exact fun h => nomatch (show (none : Option Nat) = some 11 from h)) (by exact fun h => nomatch (show (none : Option Nat) = some 15 from h)) rfl rfl (by decide) (Nat.le_of_ble_eq_true rfl) (Nat.le_of_ble_eq_true rfl) rfl
theorem eX3_lay_39N : WP (MX3_lay g) Q (39, [l0, l1], .null :: st, w, k, n) = WP (MX3_lay g) Q (42, [l0, l1], .null :: st, w, k, n) := castN_e rfl dX3_lay_39
theorem eX3_lay_39R : WP (MX3_lay g) Q (39, [l0, l1], .ref p :: st, w, k, n) = ((∃ x, w p = some (.inl (0, x))) ∧ WP (MX3_lay g) Q (42, [l0, l1], .ref p :: st, w, k, n)) := castR_e rfl dX3_lay_39 rfl
theorem eX3_lay_42R {z0 : Nat} : WP (MX3_lay g) Q (42, [l0, l1], .ref z0 :: .ref p :: st, w, k, n) = (go (rd g w p) 3 (fun _ => True) ∧ wt st ≤ 8 ∧ k + 1 ≤ 1 ∧ n + 15 ≤ 15 ∧ WP (MJx4a65c_add_9ea2d g) (kx (fun v w' => WP (MX3_lay g) Q (45, [l0, l1], v.toList ++ st, w', k + 1, n + 15)) (fun E w' => Q (.inr E) w')) (0, [some (.ref p), some (.ref z0)], [], w, 0, 0)) := csV (M := (MX3_lay g)) (mc := (fun _ _ => 1)) (ms := (fun _ _ => 15)) (As := [.ref z0]) (rest := st) (MJx4a65c_add_9ea2d g) rfl rfl dX3_lay_42 (by exact fun h => nomatch (show (none : Option Nat) = some 11 from h)) (by exact fun h => nomatch (show (none : Option Nat) = some 15 from h)) rfl rfl (by decide) (Nat.le_of_ble_eq_true rfl) (Nat.le_of_ble_eq_true rfl) rfl
theorem eX3_lay_42N  : WP (MX3_lay g) Q (42, [l0, l1], .null :: .ref p :: st, w, k, n) = (go (rd g w p) 3 (fun _ => True) ∧ wt st ≤ 8 ∧ k + 1 ≤ 1 ∧ n + 15 ≤ 15 ∧ WP (MJx4a65c_add_9ea2d g) (kx (fun v w' => WP (MX3_lay g) Q (45, [l0, l1], v.toList ++ st, w', k + 1, n + 15)) (fun E w' => Q (.inr E) w')) (0, [some (.ref p), some .null], [], w, 0, 0)) := csV (M := (MX3_lay g)) (mc := (fun _ _ => 1)) (ms := (fun _ _ => 15)) (As := [.null]) (rest := st) (MJx4a65c_add_9ea2d g) rfl rfl dX3_lay_42 (by exact fun h => nomatch (show (none : Option Nat) = some 11 from h)) (by exact fun h => nomatch (show (none : Option Nat) = some 15 from h)) rfl rfl (by decide) (Nat.le_of_ble_eq_true rfl) (Nat.le_of_ble_eq_true rfl) rfl
theorem eX3_lay_45 : WP (MX3_lay g) Q (45, [l0, l1], .int a :: st, w, k, n) = WP (MX3_lay g) Q (46, [l0, l1], st, w, k, n) := by rw [WP_at (M := (MX3_lay g)) rfl dX3_lay_45 (Or.inr rfl)]; exact and_t rfl
theorem eX3_lay_45R : WP (MX3_lay g) Q (45, [l0, l1], .ref p :: st, w, k, n) = WP (MX3_lay g) Q (46, [l0, l1], st, w, k, n) := by rw [WP_at (M := (MX3_lay g)) rfl dX3_lay_45 (Or.inr rfl)]; exact and_t rfl
theorem eX3_lay_45N : WP (MX3_lay g) Q (45, [l0, l1], .null :: st, w, k, n) = WP (MX3_lay g) Q (46, [l0, l1], st, w, k, n) := by rw [WP_at (M := (MX3_lay g)) rfl dX3_lay_45 (Or.inr rfl)]; exact and_t rfl
theorem eX3_lay_46 : WP (MX3_lay g) Q (46, [some (.ref p), l1], st, w, k, n) = WP (MX3_lay g) Q (47, [some (.ref p), l1], .ref p :: st, w, k, n) := Eq.trans (WP_at (M := (MX3_lay g)) rfl dX3_lay_46 (Or.inr rfl)) rfl
theorem eX3_lay_46N : WP (MX3_lay g) Q (46, [some .null, l1], st, w, k, n) = WP (MX3_lay g) Q (47, [some .null, l1], .null :: st, w, k, n) := Eq.trans (WP_at (M := (MX3_lay g)) rfl dX3_lay_46 (Or.inr rfl)) rfl
theorem eX3_lay_47 : WP (MX3_lay g) Q (47, [l0, l1], .ref p :: st, w, k, n) = go (rd g w p) 7 fun fs => ∃ v, fs[3]? = some v ∧ WP (MX3_lay g) Q (50, [l0, l1], v :: st, w, k, n) := get_e rfl dX3_lay_47 rfl
theorem eX3_lay_50  : WP (MX3_lay g) Q (50, [l0, l1], .ref p :: st, w, k, n) = (go (rd g w p) 3 (fun _ => True) ∧ wt st ≤ 8 ∧ k + 0 ≤ 1 ∧ n + 0 ≤ 15 ∧ WP (MJx4a65c_size_8abf5 g) (kx (fun v w' => WP (MX3_lay g) Q (53, [l0, l1], v.toList ++ st, w', k + 0, n + 0)) (fun E w' => Q (.inr E) w')) (0, [some (.ref p)], [], w, 0, 0)) := csV (M := (MX3_lay g)) (mc := (fun _ _ => 0)) (ms := (fun _ _ => 0)) (As := []) (rest := st) (MJx4a65c_size_8abf5 g) rfl rfl dX3_lay_50 (by exact fun h => nomatch (show (none : Option Nat) = some 11 from h)) (by exact fun h => nomatch (show (none : Option Nat) = some 15 from h)) rfl rfl (by decide) (Nat.le_of_ble_eq_true rfl) (Nat.le_of_ble_eq_true rfl) rfl
set_option maxRecDepth 20000 in
theorem eX3_lay_53 : WP (MX3_lay g) Q (53, [l0, l1], [.int a], w, k, n) = (k ≤ 1 ∧ n ≤ 15 ∧ Q (.inl (some (.int a))) w) := iretI_e rfl dX3_lay_53 rfl
end
theorem wk_1523 : (.code yJx4a65c_size_8abf5 cJx4a65c_size_8abf5 1 (some .int) : Jvm.Cond) ∈ WS := WS_t7 25 rfl rfl
theorem wk_1520 : (.methodLink RX3 174 yJx4a65c_size_8abf5 : Jvm.Cond) ∈ WS := WS_t7 22 rfl rfl
theorem wk_1521 : (.instanceMethod yJx4a65c_size_8abf5 : Jvm.Cond) ∈ WS := WS_t7 23 rfl rfl
theorem wk_1522 : (.selects RJx4a65c yJx4a65c_size_8abf5 yJx4a65c_size_8abf5 : Jvm.Cond) ∈ WS := WS_t7 24 rfl rfl
theorem vMX3_lay {l : Launch} (hl : l.stackTraces = false) (G : GT) : vM l G (MX3_lay (gg G)) := ⟨fun i c j h => lookup_all (l := (MX3_lay (gg G)).fld) (P := fun i e => vFld RX3 i e.1 e.2) (all_c (vF_RX3_20) (all_c (vF_RX3_16) (all_n))) i (c, j) h, fun i c fs h => lookup_all (l := (MX3_lay (gg G)).new) (P := fun i e => vNew RX3 i e.1 e.2) (all_n) i (c, fs) h, lookup_all (l := (MX3_lay (gg G)).anew) (P := fun i e => vANew RX3 i e) (all_n), lookup_all (l := (MX3_lay (gg G)).lng) (P := fun i e => Jvm.Cond.constantLong RX3 i e ∈ WS) (all_n), lookup_all (l := (MX3_lay (gg G)).thr) (P := fun i e => vThr RX3 cX3_lay i e) (all_n), fun h => absurd rfl h, lookup_all (l := (MX3_lay (gg G)).cal) (P := fun i e => vCal l G RX3 i e) (all_c (⟨cX3_isNone, 2, some .boolean, fun y hy => by subst hy; exact ⟨by decide, ⟨_, wk_1410, okX3_isNone hl, Or.inl ⟨Nat.ne_of_beq_eq_false rfl, rfl⟩⟩, wk_60, ⟨(by decide : yX3_isNone.cls ≠ "java/lang/invoke/MethodHandle"), (by decide : yX3_isNone.cls ≠ "java/lang/invoke/VarHandle")⟩, ⟨(by decide +kernel : (parseMethodDescriptor yX3_isNone.desc).map (fun d => d.parameters.length + 1) = some 2), wk_1407, wk_1409, wk_44, (RX3, TX3, 7), rfl, rfl⟩⟩⟩) (all_c (⟨cJx4a65c_size_8abf5, 1, some .int, fun y hy => by subst hy; exact ⟨by decide, ⟨_, wk_1523, okJx4a65c_size_8abf5 hl, Or.inl ⟨Nat.ne_of_beq_eq_false rfl, rfl⟩⟩, wk_63, ⟨(by decide : yJx4a65c_size_8abf5.cls ≠ "java/lang/invoke/MethodHandle"), (by decide : yJx4a65c_size_8abf5.cls ≠ "java/lang/invoke/VarHandle")⟩, ⟨(by decide +kernel : (parseMethodDescriptor yJx4a65c_size_8abf5.desc).map (fun d => d.parameters.length + 1) = some 1), wk_1520, wk_1521, wk_1522, (RJx4a65c, TJx4a65c, 3), rfl, rfl⟩⟩⟩) (all_c (⟨cX3_no, 1, some .int, fun y hy => by subst hy; exact ⟨by decide, ⟨_, wk_1331, okX3_no hl, Or.inl ⟨Nat.ne_of_beq_eq_false rfl, rfl⟩⟩, wk_60, ⟨(by decide : yX3_no.cls ≠ "java/lang/invoke/MethodHandle"), (by decide : yX3_no.cls ≠ "java/lang/invoke/VarHandle")⟩, ⟨(by decide +kernel : (parseMethodDescriptor yX3_no.desc).map (fun d => d.parameters.length + 1) = some 1), wk_1328, wk_1330, wk_41, (RX3, TX3, 7), rfl, rfl⟩⟩⟩) (all_c (⟨cJx4a65c_get_915e3, 2, some (.object "java/lang/Object"), fun y hy => by subst hy; exact ⟨by decide, ⟨_, wk_1379, okJx4a65c_get_915e3 hl, Or.inl ⟨Nat.ne_of_beq_eq_false rfl, rfl⟩⟩, wk_63, ⟨(by decide : yJx4a65c_get_915e3.cls ≠ "java/lang/invoke/MethodHandle"), (by decide : yJx4a65c_get_915e3.cls ≠ "java/lang/invoke/VarHandle")⟩, ⟨(by decide +kernel : (parseMethodDescriptor yJx4a65c_get_915e3.desc).map (fun d => d.parameters.length + 1) = some 2), wk_1376, wk_1377, wk_1378, (RJx4a65c, TJx4a65c, 3), rfl, rfl⟩⟩⟩) (all_c (⟨cJx4a65c_add_9ea2d, 2, some .boolean, fun y hy => by subst hy; exact ⟨by decide, ⟨_, wk_1152, okJx4a65c_add_9ea2d hl, Or.inl ⟨Nat.ne_of_beq_eq_false rfl, rfl⟩⟩, wk_63, ⟨(by decide : yJx4a65c_add_9ea2d.cls ≠ "java/lang/invoke/MethodHandle"), (by decide : yJx4a65c_add_9ea2d.cls ≠ "java/lang/invoke/VarHandle")⟩, ⟨(by decide +kernel : (parseMethodDescriptor yJx4a65c_add_9ea2d.desc).map (fun d => d.parameters.length + 1) = some 2), wk_1149, wk_1150, wk_1151, (RJx4a65c, TJx4a65c, 3), rfl, rfl⟩⟩⟩) (all_n)))))), lookup_all (l := (MX3_lay (gg G)).stt) (P := fun i e => vStt G RX3 i e) (all_n), lookup_all (l := (MX3_lay (gg G)).cst) (P := fun i e => vCst RX3 i e) (all_c (⟨.long, rfl, (fun C h => by cases h), wk_1380⟩) (all_n)), fun h => absurd rfl h, rfl, all_n⟩
theorem okX3_lay {l : Launch} (hl : l.stackTraces = false) {G : GT} : ∀ (args : List Value) (w : Hw) (S : Ot → Hw → Prop), spOf (MX3_lay (gg G)) args w S → CX l G yX3_lay (.code yX3_lay cX3_lay 2 (some .int)) 7 1 15 args w S := CX_sp (M := MX3_lay (gg G)) (y := yX3_lay) hl (by decide) rfl (vMX3_lay hl G) (fun h => by cases h) rfl
/-! RangecardModel.seekNow(IZ)I -/
theorem dX3_seekNow_0 : decode cX3_seekNow 0 = .ok (.iconst (-1), 1) := by decide +kernel
theorem dX3_seekNow_1 : decode cX3_seekNow 1 = .ok (.istore_n 3, 1) := by decide +kernel
theorem dX3_seekNow_2 : decode cX3_seekNow 2 = .ok (.iconst 0, 1) := by decide +kernel
theorem dX3_seekNow_3 : decode cX3_seekNow 3 = .ok (.istore 4, 2) := by decide +kernel
theorem dX3_seekNow_5 : decode cX3_seekNow 5 = .ok (.iload 4, 2) := by decide +kernel
theorem dX3_seekNow_7 : decode cX3_seekNow 7 = .ok (.aload_n 0, 1) := by decide +kernel
theorem dX3_seekNow_8 : decode cX3_seekNow 8 = .ok (.getfield 20, 3) := by decide +kernel
theorem dX3_seekNow_11 : decode cX3_seekNow 11 = .ok (.invokevirtual 174, 3) := by decide +kernel
theorem dX3_seekNow_14 : decode cX3_seekNow 14 = .ok (.if_icmp .ge 50, 3) := by decide +kernel
theorem dX3_seekNow_17 : decode cX3_seekNow 17 = .ok (.aload_n 0, 1) := by decide +kernel
theorem dX3_seekNow_18 : decode cX3_seekNow 18 = .ok (.getfield 20, 3) := by decide +kernel
theorem dX3_seekNow_21 : decode cX3_seekNow 21 = .ok (.iload 4, 2) := by decide +kernel
theorem dX3_seekNow_23 : decode cX3_seekNow 23 = .ok (.invokevirtual 42, 3) := by decide +kernel
theorem dX3_seekNow_26 : decode cX3_seekNow 26 = .ok (.checkcast 125, 3) := by decide +kernel
theorem dX3_seekNow_29 : decode cX3_seekNow 29 = .ok (.aload_n 0, 1) := by decide +kernel
theorem dX3_seekNow_30 : decode cX3_seekNow 30 = .ok (.getfield 16, 3) := by decide +kernel
theorem dX3_seekNow_33 : decode cX3_seekNow 33 = .ok (.iload_n 1, 1) := by decide +kernel
theorem dX3_seekNow_34 : decode cX3_seekNow 34 = .ok (.invokevirtual 42, 3) := by decide +kernel
theorem dX3_seekNow_37 : decode cX3_seekNow 37 = .ok (.checkcast 125, 3) := by decide +kernel
theorem dX3_seekNow_40 : decode cX3_seekNow 40 = .ok (.invokestatic 126, 3) := by decide +kernel
theorem dX3_seekNow_43 : decode cX3_seekNow 43 = .ok (.ifCond .eq 15, 3) := by decide +kernel
theorem dX3_seekNow_46 : decode cX3_seekNow 46 = .ok (.iload_n 2, 1) := by decide +kernel
theorem dX3_seekNow_47 : decode cX3_seekNow 47 = .ok (.ifCond .ne 8, 3) := by decide +kernel
theorem dX3_seekNow_50 : decode cX3_seekNow 50 = .ok (.iload_n 3, 1) := by decide +kernel
theorem dX3_seekNow_51 : decode cX3_seekNow 51 = .ok (.iconst (-1), 1) := by decide +kernel
theorem dX3_seekNow_52 : decode cX3_seekNow 52 = .ok (.if_icmp .ne 6, 3) := by decide +kernel
theorem dX3_seekNow_55 : decode cX3_seekNow 55 = .ok (.iload 4, 2) := by decide +kernel
theorem dX3_seekNow_57 : decode cX3_seekNow 57 = .ok (.istore_n 3, 1) := by decide +kernel
theorem dX3_seekNow_58 : decode cX3_seekNow 58 = .ok (.iinc 4 1, 3) := by decide +kernel
theorem dX3_seekNow_61 : decode cX3_seekNow 61 = .ok (.goto (-56), 3) := by decide +kernel
theorem dX3_seekNow_64 : decode cX3_seekNow 64 = .ok (.iload_n 3, 1) := by decide +kernel
theorem dX3_seekNow_65 : decode cX3_seekNow 65 = .ok (.ireturn, 1) := by decide +kernel
def MX3_seekNow (g : RO) : MT := ((RX3, cX3_seekNow, 5, 4, 0, 0, false, some .int), [(20, 7, 3), (16, 7, 2)], [], [], [], [], 0, [(174, 2, 1, 3, 1, (fun _ _ => 0), (fun _ _ => 0), yJx4a65c_size_8abf5, spOf (MJx4a65c_size_8abf5 g)), (42, 2, 2, 3, 3, (fun _ _ => 0), (fun _ _ => 0), yJx4a65c_get_915e3, spOf (MJx4a65c_get_915e3 g)), (126, 0, 2, 0, 1, (fun _ _ => 0), (fun _ _ => 0), yX3_same, spOf (MX3_same g))], [], [(125, 0)], 0, [], [], g)
section
variable {g : RO} {Q : Ot → Hw → Prop} {st : List Value} {w : Hw} {k n p q : Nat} {a b : Int32} {x y : Int64} {u v : Value} {l0 l1 l2 l3 l4 : Option Value}
theorem eX3_seekNow_0 : WP (MX3_seekNow g) Q (0, [l0, l1, l2, l3, l4], st, w, k, n) = WP (MX3_seekNow g) Q (1, [l0, l1, l2, l3, l4], .int (-1) :: st, w, k, n) := iconst_e rfl dX3_seekNow_0 (by decide)
theorem eX3_seekNow_1 : WP (MX3_seekNow g) Q (1, [l0, l1, l2, l3, l4], .int a :: st, w, k, n) = WP (MX3_seekNow g) Q (2, [l0, l1, nl l2, some (.int a), l4], st, w, k, n) := by rw [WP_at (M := (MX3_seekNow g)) rfl dX3_seekNow_1 (Or.inr rfl)]; exact and_t (Nat.le_of_ble_eq_true rfl)
theorem eX3_seekNow_2 : WP (MX3_seekNow g) Q (2, [l0, l1, l2, l3, l4], st, w, k, n) = WP (MX3_seekNow g) Q (3, [l0, l1, l2, l3, l4], .int 0 :: st, w, k, n) := iconst_e rfl dX3_seekNow_2 (by decide)
theorem eX3_seekNow_3 : WP (MX3_seekNow g) Q (3, [l0, l1, l2, l3, l4], .int a :: st, w, k, n) = WP (MX3_seekNow g) Q (5, [l0, l1, l2, nl l3, some (.int a)], st, w, k, n) := by rw [WP_at (M := (MX3_seekNow g)) rfl dX3_seekNow_3 (Or.inr rfl)]; exact and_t (Nat.le_of_ble_eq_true rfl)
theorem eX3_seekNow_5 : WP (MX3_seekNow g) Q (5, [l0, l1, l2, l3, some (.int a)], st, w, k, n) = WP (MX3_seekNow g) Q (7, [l0, l1, l2, l3, some (.int a)], .int a :: st, w, k, n) := Eq.trans (WP_at (M := (MX3_seekNow g)) rfl dX3_seekNow_5 (Or.inr rfl)) rfl
theorem eX3_seekNow_7 : WP (MX3_seekNow g) Q (7, [some (.ref p), l1, l2, l3, l4], st, w, k, n) = WP (MX3_seekNow g) Q (8, [some (.ref p), l1, l2, l3, l4], .ref p :: st, w, k, n) := Eq.trans (WP_at (M := (MX3_seekNow g)) rfl dX3_seekNow_7 (Or.inr rfl)) rfl
theorem eX3_seekNow_7N : WP (MX3_seekNow g) Q (7, [some .null, l1, l2, l3, l4], st, w, k, n) = WP (MX3_seekNow g) Q (8, [some .null, l1, l2, l3, l4], .null :: st, w, k, n) := Eq.trans (WP_at (M := (MX3_seekNow g)) rfl dX3_seekNow_7 (Or.inr rfl)) rfl
theorem eX3_seekNow_8 : WP (MX3_seekNow g) Q (8, [l0, l1, l2, l3, l4], .ref p :: st, w, k, n) = go (rd g w p) 7 fun fs => ∃ v, fs[3]? = some v ∧ WP (MX3_seekNow g) Q (11, [l0, l1, l2, l3, l4], v :: st, w, k, n) := get_e rfl dX3_seekNow_8 rfl
theorem eX3_seekNow_11  : WP (MX3_seekNow g) Q (11, [l0, l1, l2, l3, l4], .ref p :: st, w, k, n) = (go (rd g w p) 3 (fun _ => True) ∧ wt st ≤ 8 ∧ k + 0 ≤ 0 ∧ n + 0 ≤ 0 ∧ WP (MJx4a65c_size_8abf5 g) (kx (fun v w' => WP (MX3_seekNow g) Q (14, [l0, l1, l2, l3, l4], v.toList ++ st, w', k + 0, n + 0)) (fun E w' => Q (.inr E) w')) (0, [some (.ref p)], [], w, 0, 0)) := csV (M := (MX3_seekNow g)) (mc := (fun _ _ => 0)) (ms := (fun _ _ => 0)) (As := []) (rest := st) (MJx4a65c_size_8abf5 g) rfl rfl dX3_seekNow_11 (by exact fun h => nomatch (show (none : Option Nat) = some 11 from h)) (by exact fun h => nomatch (show (none : Option Nat) = some 15 from h)) rfl rfl (by decide) (Nat.le_of_ble_eq_true rfl) (Nat.le_of_ble_eq_true rfl) rfl
theorem eX3_seekNow_14 : WP (MX3_seekNow g) Q (14, [l0, l1, l2, l3, l4], .int b :: .int a :: st, w, k, n) = if b ≤ a then WP (MX3_seekNow g) Q (64, [l0, l1, l2, l3, l4], st, w, k, n) else WP (MX3_seekNow g) Q (17, [l0, l1, l2, l3, l4], st, w, k, n) := icm_e (b ≤ a) rfl dX3_seekNow_14 rfl (by decide)
theorem eX3_seekNow_17 : WP (MX3_seekNow g) Q (17, [some (.ref p), l1, l2, l3, l4], st, w, k, n) = WP (MX3_seekNow g) Q (18, [some (.ref p), l1, l2, l3, l4], .ref p :: st, w, k, n) := Eq.trans (WP_at (M := (MX3_seekNow g)) rfl dX3_seekNow_17 (Or.inr rfl)) rfl
theorem eX3_seekNow_17N : WP (MX3_seekNow g) Q (17, [some .null, l1, l2, l3, l4], st, w, k, n) = WP (MX3_seekNow g) Q (18, [some .null, l1, l2, l3, l4], .null :: st, w, k, n) := Eq.trans (WP_at (M := (MX3_seekNow g)) rfl dX3_seekNow_17 (Or.inr rfl)) rfl
theorem eX3_seekNow_18 : WP (MX3_seekNow g) Q (18, [l0, l1, l2, l3, l4], .ref p :: st, w, k, n) = go (rd g w p) 7 fun fs => ∃ v, fs[3]? = some v ∧ WP (MX3_seekNow g) Q (21, [l0, l1, l2, l3, l4], v :: st, w, k, n) := get_e rfl dX3_seekNow_18 rfl
theorem eX3_seekNow_21 : WP (MX3_seekNow g) Q (21, [l0, l1, l2, l3, some (.int a)], st, w, k, n) = WP (MX3_seekNow g) Q (23, [l0, l1, l2, l3, some (.int a)], .int a :: st, w, k, n) := Eq.trans (WP_at (M := (MX3_seekNow g)) rfl dX3_seekNow_21 (Or.inr rfl)) rfl
theorem eX3_seekNow_23 {z0 : Int32} : WP (MX3_seekNow g) Q (23, [l0, l1, l2, l3, l4], .int z0 :: .ref p :: st, w, k, n) = (go (rd g w p) 3 (fun _ => True) ∧ wt st ≤ 8 ∧ k + 0 ≤ 0 ∧ n + 0 ≤ 0 ∧ WP (MJx4a65c_get_915e3 g) (kx (fun v w' => WP (MX3_seekNow g) Q (26, [l0, l1, l2, l3, l4], v.toList ++ st, w', k + 0, n + 0)) (fun E w' => Q (.inr E) w')) (0, [some (.ref p), some (.int z0)], [], w, 0, 0)) := csV (M := (MX3_seekNow g)) (mc := (fun _ _ => 0)) (ms := (fun _ _ => 0)) (As := [.int z0]) (rest := st) (MJx4a65c_get_915e3 g) rfl rfl dX3_seekNow_23 (by exact fun h => nomatch (show (none : Option Nat) = some 11 from h)) (by exact fun h => nomatch (show (none : Option Nat) = some 15 from h)) rfl rfl (by decide) (Nat.le_of_ble_eq_true rfl) (Nat.le_of_ble_eq_true rfl) rfl
theorem eX3_seekNow_26N : WP (MX3_seekNow g) Q (26, [l0, l1, l2, l3, l4], .null :: st, w, k, n) = WP (MX3_seekNow g) Q (29, [l0, l1, l2, l3, l4], .null :: st, w, k, n) := castN_e rfl dX3_seekNow_26
theorem eX3_seekNow_26R : WP (MX3_seekNow g) Q (26, [l0, l1, l2, l3, l4], .ref p :: st, w, k, n) = ((∃ x, w p = some (.inl (0, x))) ∧ WP (MX3_seekNow g) Q (29, [l0, l1, l2, l3, l4], .ref p :: st, w, k, n)) := castR_e rfl dX3_seekNow_26 rfl
theorem eX3_seekNow_29 : WP (MX3_seekNow g) Q (29, [some (.ref p), l1, l2, l3, l4], st, w, k, n) = WP (MX3_seekNow g) Q (30, [some (.ref p), l1, l2, l3, l4], .ref p :: st, w, k, n) := Eq.trans (WP_at (M := (MX3_seekNow g)) rfl dX3_seekNow_29 (Or.inr rfl)) rfl
theorem eX3_seekNow_29N : WP (MX3_seekNow g) Q (29, [some .null, l1, l2, l3, l4], st, w, k, n) = WP (MX3_seekNow g) Q (30, [some .null, l1, l2, l3, l4], .null :: st, w, k, n) := Eq.trans (WP_at (M := (MX3_seekNow g)) rfl dX3_seekNow_29 (Or.inr rfl)) rfl
theorem eX3_seekNow_30 : WP (MX3_seekNow g) Q (30, [l0, l1, l2, l3, l4], .ref p :: st, w, k, n) = go (rd g w p) 7 fun fs => ∃ v, fs[2]? = some v ∧ WP (MX3_seekNow g) Q (33, [l0, l1, l2, l3, l4], v :: st, w, k, n) := get_e rfl dX3_seekNow_30 rfl
theorem eX3_seekNow_33 : WP (MX3_seekNow g) Q (33, [l0, some (.int a), l2, l3, l4], st, w, k, n) = WP (MX3_seekNow g) Q (34, [l0, some (.int a), l2, l3, l4], .int a :: st, w, k, n) := Eq.trans (WP_at (M := (MX3_seekNow g)) rfl dX3_seekNow_33 (Or.inr rfl)) rfl
theorem eX3_seekNow_34 {z0 : Int32} : WP (MX3_seekNow g) Q (34, [l0, l1, l2, l3, l4], .int z0 :: .ref p :: st, w, k, n) = (go (rd g w p) 3 (fun _ => True) ∧ wt st ≤ 8 ∧ k + 0 ≤ 0 ∧ n + 0 ≤ 0 ∧ WP (MJx4a65c_get_915e3 g) (kx (fun v w' => WP (MX3_seekNow g) Q (37, [l0, l1, l2, l3, l4], v.toList ++ st, w', k + 0, n + 0)) (fun E w' => Q (.inr E) w')) (0, [some (.ref p), some (.int z0)], [], w, 0, 0)) := csV (M := (MX3_seekNow g)) (mc := (fun _ _ => 0)) (ms := (fun _ _ => 0)) (As := [.int z0]) (rest := st) (MJx4a65c_get_915e3 g) rfl rfl dX3_seekNow_34 (by exact fun h => nomatch (show (none : Option Nat) = some 11 from h)) (by exact fun h => nomatch (show (none : Option Nat) = some 15 from h)) rfl rfl (by decide) (Nat.le_of_ble_eq_true rfl) (Nat.le_of_ble_eq_true rfl) rfl
theorem eX3_seekNow_37N : WP (MX3_seekNow g) Q (37, [l0, l1, l2, l3, l4], .null :: st, w, k, n) = WP (MX3_seekNow g) Q (40, [l0, l1, l2, l3, l4], .null :: st, w, k, n) := castN_e rfl dX3_seekNow_37
theorem eX3_seekNow_37R : WP (MX3_seekNow g) Q (37, [l0, l1, l2, l3, l4], .ref p :: st, w, k, n) = ((∃ x, w p = some (.inl (0, x))) ∧ WP (MX3_seekNow g) Q (40, [l0, l1, l2, l3, l4], .ref p :: st, w, k, n)) := castR_e rfl dX3_seekNow_37 rfl
theorem eX3_seekNow_40RR {z0 : Nat} {z1 : Nat} : WP (MX3_seekNow g) Q (40, [l0, l1, l2, l3, l4], .ref z1 :: .ref z0 :: st, w, k, n) = (wt st ≤ 8 ∧ k + 0 ≤ 0 ∧ n + 0 ≤ 0 ∧ WP (MX3_same g) (kx (fun v w' => WP (MX3_seekNow g) Q (43, [l0, l1, l2, l3, l4], v.toList ++ st, w', k + 0, n + 0)) (fun E w' => Q (.inr E) w')) (0, [some (.ref z0), some (.ref z1), none, none], [], w, 0, 0)) := csS (M := (MX3_seekNow g)) (mc := (fun _ _ => 0)) (ms := (fun _ _ => 0)) (As := [.ref z0, .ref z1]) (rest := st) (MX3_same g) rfl rfl dX3_seekNow_40 (Nat.ne_of_beq_eq_false rfl) (by exact fun h => nomatch (show (none : Option Nat) = some 12 from h)) (by exact fun h => nomatch (show (none : Option Nat) = some 13 from h)) (by exact fun h => nomatch (show (none : Option Nat) = some 14 from h)) rfl rfl (by decide) (Nat.le_of_ble_eq_true rfl) (Nat.le_of_ble_eq_true rfl) rfl
theorem eX3_seekNow_40NR {z1 : Nat} : WP (MX3_seekNow g) Q (40, [l0, l1, l2, l3, l4], .ref z1 :: .null :: st, w, k, n) = (wt st ≤ 8 ∧ k + 0 ≤ 0 ∧ n + 0 ≤ 0 ∧ WP (MX3_same g) (kx (fun v w' => WP (MX3_seekNow g) Q (43, [l0, l1, l2, l3, l4], v.toList ++ st, w', k + 0, n + 0)) (fun E w' => Q (.inr E) w')) (0, [some .null, some (.ref z1), none, none], [], w, 0, 0)) := csS (M := (MX3_seekNow g)) (mc := (fun _ _ => 0)) (ms := (fun _ _ => 0)) (As := [.null, .ref z1]) (rest := st) (MX3_same g) rfl rfl dX3_seekNow_40 (Nat.ne_of_beq_eq_false rfl) (by exact fun h => nomatch (show (none : Option Nat) = some 12 from h)) (by exact fun h => nomatch (show (none : Option Nat) = some 13 from h)) (by exact fun h => nomatch (show (none : Option Nat) = some 14 from h)) rfl rfl (by decide) (Nat.le_of_ble_eq_true rfl) (Nat.le_of_ble_eq_true rfl) rfl
theorem eX3_seekNow_40RN {z0 : Nat} : WP (MX3_seekNow g) Q (40, [l0, l1, l2, l3, l4], .null :: .ref z0 :: st, w, k, n) = (wt st ≤ 8 ∧ k + 0 ≤ 0 ∧ n + 0 ≤ 0 ∧ WP (MX3_same g) (kx (fun v w' => WP (MX3_seekNow g) Q (43, [l0, l1, l2, l3, l4], v.toList ++ st, w', k + 0, n + 0)) (fun E w' => Q (.inr E) w')) (0, [some (.ref z0), some .null, none, none], [], w, 0, 0)) := csS (M := (MX3_seekNow g)) (mc := (fun _ _ => 0)) (ms := (fun _ _ => 0)) (As := [.ref z0, .null]) (rest := st) (MX3_same g) rfl rfl dX3_seekNow_40 (Nat.ne_of_beq_eq_false rfl) (by exact fun h => nomatch (show (none : Option Nat) = some 12 from h)) (by exact fun h => nomatch (show (none : Option Nat) = some 13 from h)) (by exact fun h => nomatch (show (none : Option Nat) = some 14 from h)) rfl rfl (by decide) (Nat.le_of_ble_eq_true rfl) (Nat.le_of_ble_eq_true rfl) rfl
theorem eX3_seekNow_40NN  : WP (MX3_seekNow g) Q (40, [l0, l1, l2, l3, l4], .null :: .null :: st, w, k, n) = (wt st ≤ 8 ∧ k + 0 ≤ 0 ∧ n + 0 ≤ 0 ∧ WP (MX3_same g) (kx (fun v w' => WP (MX3_seekNow g) Q (43, [l0, l1, l2, l3, l4], v.toList ++ st, w', k + 0, n + 0)) (fun E w' => Q (.inr E) w')) (0, [some .null, some .null, none, none], [], w, 0, 0)) := csS (M := (MX3_seekNow g)) (mc := (fun _ _ => 0)) (ms := (fun _ _ => 0)) (As := [.null, .null]) (rest := st) (MX3_same g) rfl rfl dX3_seekNow_40 (Nat.ne_of_beq_eq_false rfl) (by exact fun h => nomatch (show (none : Option Nat) = some 12 from h)) (by exact fun h => nomatch (show (none : Option Nat) = some 13 from h)) (by exact fun h => nomatch (show (none : Option Nat) = some 14 from h)) rfl rfl (by decide) (Nat.le_of_ble_eq_true rfl) (Nat.le_of_ble_eq_true rfl) rfl
theorem eX3_seekNow_43 : WP (MX3_seekNow g) Q (43, [l0, l1, l2, l3, l4], .int a :: st, w, k, n) = if a = 0 then WP (MX3_seekNow g) Q (58, [l0, l1, l2, l3, l4], st, w, k, n) else WP (MX3_seekNow g) Q (46, [l0, l1, l2, l3, l4], st, w, k, n) := ifc_e (a = 0) rfl dX3_seekNow_43 rfl (by decide)
theorem eX3_seekNow_46 : WP (MX3_seekNow g) Q (46, [l0, l1, some (.int a), l3, l4], st, w, k, n) = WP (MX3_seekNow g) Q (47, [l0, l1, some (.int a), l3, l4], .int a :: st, w, k, n) := Eq.trans (WP_at (M := (MX3_seekNow g)) rfl dX3_seekNow_46 (Or.inr rfl)) rfl
theorem eX3_seekNow_47 : WP (MX3_seekNow g) Q (47, [l0, l1, l2, l3, l4], .int a :: st, w, k, n) = if a = 0 then WP (MX3_seekNow g) Q (50, [l0, l1, l2, l3, l4], st, w, k, n) else WP (MX3_seekNow g) Q (55, [l0, l1, l2, l3, l4], st, w, k, n) := ifcn_e (a = 0) rfl dX3_seekNow_47 rfl (by decide)
theorem eX3_seekNow_50 : WP (MX3_seekNow g) Q (50, [l0, l1, l2, some (.int a), l4], st, w, k, n) = WP (MX3_seekNow g) Q (51, [l0, l1, l2, some (.int a), l4], .int a :: st, w, k, n) := Eq.trans (WP_at (M := (MX3_seekNow g)) rfl dX3_seekNow_50 (Or.inr rfl)) rfl
theorem eX3_seekNow_51 : WP (MX3_seekNow g) Q (51, [l0, l1, l2, l3, l4], st, w, k, n) = WP (MX3_seekNow g) Q (52, [l0, l1, l2, l3, l4], .int (-1) :: st, w, k, n) := iconst_e rfl dX3_seekNow_51 (by decide)
theorem eX3_seekNow_52 : WP (MX3_seekNow g) Q (52, [l0, l1, l2, l3, l4], .int b :: .int a :: st, w, k, n) = if a = b then WP (MX3_seekNow g) Q (55, [l0, l1, l2, l3, l4], st, w, k, n) else WP (MX3_seekNow g) Q (58, [l0, l1, l2, l3, l4], st, w, k, n) := icmn_e (a = b) rfl dX3_seekNow_52 rfl (by decide)
theorem eX3_seekNow_55 : WP (MX3_seekNow g) Q (55, [l0, l1, l2, l3, some (.int a)], st, w, k, n) = WP (MX3_seekNow g) Q (57, [l0, l1, l2, l3, some (.int a)], .int a :: st, w, k, n) := Eq.trans (WP_at (M := (MX3_seekNow g)) rfl dX3_seekNow_55 (Or.inr rfl)) rfl
theorem eX3_seekNow_57 : WP (MX3_seekNow g) Q (57, [l0, l1, l2, l3, l4], .int a :: st, w, k, n) = WP (MX3_seekNow g) Q (58, [l0, l1, nl l2, some (.int a), l4], st, w, k, n) := by rw [WP_at (M := (MX3_seekNow g)) rfl dX3_seekNow_57 (Or.inr rfl)]; exact and_t (Nat.le_of_ble_eq_true rfl)
theorem eX3_seekNow_58 : WP (MX3_seekNow g) Q (58, [l0, l1, l2, l3, some (.int a)], st, w, k, n) = WP (MX3_seekNow g) Q (61, [l0, l1, l2, nl l3, some (.int (a + 1))], st, w, k, n) := Eq.trans (iinc_e (M := (MX3_seekNow g)) (L := [l0, l1, l2, l3, some (.int a)]) (d := 1) rfl dX3_seekNow_58 (by decide) rfl) rfl
theorem eX3_seekNow_61 : WP (MX3_seekNow g) Q (61, [l0, l1, l2, l3, l4], st, w, k, n) = WP (MX3_seekNow g) Q (5, [l0, l1, l2, l3, l4], st, w, k, n) := goto_e rfl dX3_seekNow_61 (by decide)
theorem eX3_seekNow_64 : WP (MX3_seekNow g) Q (64, [l0, l1, l2, some (.int a), l4], st, w, k, n) = WP (MX3_seekNow g) Q (65, [l0, l1, l2, some (.int a), l4], .int a :: st, w, k, n) := Eq.trans (WP_at (M := (MX3_seekNow g)) rfl dX3_seekNow_64 (Or.inr rfl)) rfl
set_option maxRecDepth 20000 in
theorem eX3_seekNow_65 : WP (MX3_seekNow g) Q (65, [l0, l1, l2, l3, l4], [.int a], w, k, n) = (k ≤ 0 ∧ n ≤ 0 ∧ Q (.inl (some (.int a))) w) := iretI_e rfl dX3_seekNow_65 rfl
end
theorem vMX3_seekNow {l : Launch} (hl : l.stackTraces = false) (G : GT) : vM l G (MX3_seekNow (gg G)) := ⟨fun i c j h => lookup_all (l := (MX3_seekNow (gg G)).fld) (P := fun i e => vFld RX3 i e.1 e.2) (all_c (vF_RX3_20) (all_c (vF_RX3_16) (all_n))) i (c, j) h, fun i c fs h => lookup_all (l := (MX3_seekNow (gg G)).new) (P := fun i e => vNew RX3 i e.1 e.2) (all_n) i (c, fs) h, lookup_all (l := (MX3_seekNow (gg G)).anew) (P := fun i e => vANew RX3 i e) (all_n), lookup_all (l := (MX3_seekNow (gg G)).lng) (P := fun i e => Jvm.Cond.constantLong RX3 i e ∈ WS) (all_n), lookup_all (l := (MX3_seekNow (gg G)).thr) (P := fun i e => vThr RX3 cX3_seekNow i e) (all_n), fun h => absurd rfl h, lookup_all (l := (MX3_seekNow (gg G)).cal) (P := fun i e => vCal l G RX3 i e) (all_c (⟨cJx4a65c_size_8abf5, 1, some .int, fun y hy => by subst hy; exact ⟨by decide, ⟨_, wk_1523, okJx4a65c_size_8abf5 hl, Or.inl ⟨Nat.ne_of_beq_eq_false rfl, rfl⟩⟩, wk_63, ⟨(by decide : yJx4a65c_size_8abf5.cls ≠ "java/lang/invoke/MethodHandle"), (by decide : yJx4a65c_size_8abf5.cls ≠ "java/lang/invoke/VarHandle")⟩, ⟨(by decide +kernel : (parseMethodDescriptor yJx4a65c_size_8abf5.desc).map (fun d => d.parameters.length + 1) = some 1), wk_1520, wk_1521, wk_1522, (RJx4a65c, TJx4a65c, 3), rfl, rfl⟩⟩⟩) (all_c (⟨cJx4a65c_get_915e3, 2, some (.object "java/lang/Object"), fun y hy => by subst hy; exact ⟨by decide, ⟨_, wk_1379, okJx4a65c_get_915e3 hl, Or.inl ⟨Nat.ne_of_beq_eq_false rfl, rfl⟩⟩, wk_63, ⟨(by decide : yJx4a65c_get_915e3.cls ≠ "java/lang/invoke/MethodHandle"), (by decide : yJx4a65c_get_915e3.cls ≠ "java/lang/invoke/VarHandle")⟩, ⟨(by decide +kernel : (parseMethodDescriptor yJx4a65c_get_915e3.desc).map (fun d => d.parameters.length + 1) = some 2), wk_1376, wk_1377, wk_1378, (RJx4a65c, TJx4a65c, 3), rfl, rfl⟩⟩⟩) (all_c (⟨cX3_same, 4, some .boolean, fun y hy => by subst hy; exact ⟨by decide, ⟨_, wk_1387, okX3_same hl, Or.inl ⟨Nat.ne_of_beq_eq_false rfl, rfl⟩⟩, wk_60, ⟨(by decide : yX3_same.cls ≠ "java/lang/invoke/MethodHandle"), (by decide : yX3_same.cls ≠ "java/lang/invoke/VarHandle")⟩, ⟨(by decide +kernel : (parseMethodDescriptor yX3_same.desc).map (fun d => d.parameters.length) = some 2), wk_1385, wk_1386⟩⟩⟩) (all_n)))), lookup_all (l := (MX3_seekNow (gg G)).stt) (P := fun i e => vStt G RX3 i e) (all_n), lookup_all (l := (MX3_seekNow (gg G)).cst) (P := fun i e => vCst RX3 i e) (all_c (⟨.long, rfl, (fun C h => by cases h), wk_1380⟩) (all_n)), fun h => absurd rfl h, rfl, all_n⟩
theorem okX3_seekNow {l : Launch} (hl : l.stackTraces = false) {G : GT} : ∀ (args : List Value) (w : Hw) (S : Ot → Hw → Prop), spOf (MX3_seekNow (gg G)) args w S → CX l G yX3_seekNow (.code yX3_seekNow cX3_seekNow 5 (some .int)) 4 0 0 args w S := CX_sp (M := MX3_seekNow (gg G)) (y := yX3_seekNow) hl (by decide) rfl (vMX3_seekNow hl G) (fun h => by cases h) rfl
/-! RangecardModel.seek(IZ)I -/
theorem dX3_seek_0 : decode cX3_seek 0 = .ok (.aload_n 0, 1) := by decide +kernel
theorem dX3_seek_1 : decode cX3_seek 1 = .ok (.iload_n 1, 1) := by decide +kernel
theorem dX3_seek_2 : decode cX3_seek 2 = .ok (.invokevirtual 134, 3) := by decide +kernel
theorem dX3_seek_5 : decode cX3_seek 5 = .ok (.ifCond .eq 7, 3) := by decide +kernel
theorem dX3_seek_8 : decode cX3_seek 8 = .ok (.iconst 0, 1) := by decide +kernel
theorem dX3_seek_9 : decode cX3_seek 9 = .ok (.goto 9, 3) := by decide +kernel
theorem dX3_seek_12 : decode cX3_seek 12 = .ok (.aload_n 0, 1) := by decide +kernel
theorem dX3_seek_13 : decode cX3_seek 13 = .ok (.iload_n 1, 1) := by decide +kernel
theorem dX3_seek_14 : decode cX3_seek 14 = .ok (.iload_n 2, 1) := by decide +kernel
theorem dX3_seek_15 : decode cX3_seek 15 = .ok (.invokevirtual 177, 3) := by decide +kernel
theorem dX3_seek_18 : decode cX3_seek 18 = .ok (.ireturn, 1) := by decide +kernel
def MX3_seek (g : RO) : MT := ((RX3, cX3_seek, 3, 6, 0, 0, false, some .int), [], [], [], [], [], 0, [(134, 2, 2, 7, 5, (fun _ _ => 0), (fun _ _ => 0), yX3_isNone, spOf (MX3_isNone g)), (177, 2, 3, 7, 4, (fun _ _ => 0), (fun _ _ => 0), yX3_seekNow, spOf (MX3_seekNow g))], [], [], 0, [], [], g)
section
variable {g : RO} {Q : Ot → Hw → Prop} {st : List Value} {w : Hw} {k n p q : Nat} {a b : Int32} {x y : Int64} {u v : Value} {l0 l1 l2 : Option Value}
theorem eX3_seek_0 : WP (MX3_seek g) Q (0, [some (.ref p), l1, l2], st, w, k, n) = WP (MX3_seek g) Q (1, [some (.ref p), l1, l2], .ref p :: st, w, k, n) := Eq.trans (WP_at (M := (MX3_seek g)) rfl dX3_seek_0 (Or.inr rfl)) rfl
theorem eX3_seek_0N : WP (MX3_seek g) Q (0, [some .null, l1, l2], st, w, k, n) = WP (MX3_seek g) Q (1, [some .null, l1, l2], .null :: st, w, k, n) := Eq.trans (WP_at (M := (MX3_seek g)) rfl dX3_seek_0 (Or.inr rfl)) rfl
theorem eX3_seek_1 : WP (MX3_seek g) Q (1, [l0, some (.int a), l2], st, w, k, n) = WP (MX3_seek g) Q (2, [l0, some (.int a), l2], .int a :: st, w, k, n) := Eq.trans (WP_at (M := (MX3_seek g)) rfl dX3_seek_1 (Or.inr rfl)) rfl
theorem eX3_seek_2 {z0 : Int32} : WP (MX3_seek g) Q (2, [l0, l1, l2], .int z0 :: .ref p :: st, w, k, n) = (go (rd g w p) 7 (fun _ => True) ∧ wt st ≤ 8 ∧ k + 0 ≤ 0 ∧ n + 0 ≤ 0 ∧ WP (MX3_isNone g) (kx (fun v w' => WP (MX3_seek g) Q (5, [l0, l1, l2], v.toList ++ st, w', k + 0, n + 0)) (fun E w' => Q (.inr E) w')) (0, [some (.ref p), some (.int z0)], [], w, 0, 0)) := csV (M := (MX3_seek g)) (mc := (fun _ _ => 0)) (ms := (fun _ _ => 0)) (As := [.int z0]) (rest := st) (MX3_isNone g) rfl rfl dX3_seek_2 (by exact fun h => nomatch (show (none : Option Nat) = some 11 from h)) (by exact fun h => nomatch (show (none : Option Nat) = some 15 from h)) rfl rfl (by decide) (Nat.le_of_ble_eq_true rfl) (Nat.le_of_ble_eq_true rfl) rfl
theorem eX3_seek_5 : WP (MX3_seek g) Q (5, [l0, l1, l2], .int a :: st, w, k, n) = if a = 0 then WP (MX3_seek g) Q (12, [l0, l1, l2], st, w, k, n) else WP (MX3_seek g) Q (8, [l0, l1, l2], st, w, k, n) := ifc_e (a = 0) rfl dX3_seek_5 rfl (by decide)
theorem eX3_seek_8 : WP (MX3_seek g) Q (8, [l0, l1, l2], st, w, k, n) = WP (MX3_seek g) Q (9, [l0, l1, l2], .int 0 :: st, w, k, n) := iconst_e rfl dX3_seek_8 (by decide)
theorem eX3_seek_9 : WP (MX3_seek g) Q (9, [l0, l1, l2], st, w, k, n) = WP (MX3_seek g) Q (18, [l0, l1, l2], st, w, k, n) := goto_e rfl dX3_seek_9 (by decide)
theorem eX3_seek_12 : WP (MX3_seek g) Q (12, [some (.ref p), l1, l2], st, w, k, n) = WP (MX3_seek g) Q (13, [some (.ref p), l1, l2], .ref p :: st, w, k, n) := Eq.trans (WP_at (M := (MX3_seek g)) rfl dX3_seek_12 (Or.inr rfl)) rfl
theorem eX3_seek_12N : WP (MX3_seek g) Q (12, [some .null, l1, l2], st, w, k, n) = WP (MX3_seek g) Q (13, [some .null, l1, l2], .null :: st, w, k, n) := Eq.trans (WP_at (M := (MX3_seek g)) rfl dX3_seek_12 (Or.inr rfl)) rfl
theorem eX3_seek_13 : WP (MX3_seek g) Q (13, [l0, some (.int a), l2], st, w, k, n) = WP (MX3_seek g) Q (14, [l0, some (.int a), l2], .int a :: st, w, k, n) := Eq.trans (WP_at (M := (MX3_seek g)) rfl dX3_seek_13 (Or.inr rfl)) rfl
theorem eX3_seek_14 : WP (MX3_seek g) Q (14, [l0, l1, some (.int a)], st, w, k, n) = WP (MX3_seek g) Q (15, [l0, l1, some (.int a)], .int a :: st, w, k, n) := Eq.trans (WP_at (M := (MX3_seek g)) rfl dX3_seek_14 (Or.inr rfl)) rfl
theorem eX3_seek_15 {z0 : Int32} {z1 : Int32} : WP (MX3_seek g) Q (15, [l0, l1, l2], .int z1 :: .int z0 :: .ref p :: st, w, k, n) = (go (rd g w p) 7 (fun _ => True) ∧ wt st ≤ 8 ∧ k + 0 ≤ 0 ∧ n + 0 ≤ 0 ∧ WP (MX3_seekNow g) (kx (fun v w' => WP (MX3_seek g) Q (18, [l0, l1, l2], v.toList ++ st, w', k + 0, n + 0)) (fun E w' => Q (.inr E) w')) (0, [some (.ref p), some (.int z0), some (.int z1), none, none], [], w, 0, 0)) := csV (M := (MX3_seek g)) (mc := (fun _ _ => 0)) (ms := (fun _ _ => 0)) (As := [.int z0, .int z1]) (rest := st) (MX3_seekNow g) rfl rfl dX3_seek_15 (by exact fun h => nomatch (show (none : Option Nat) = some 11 from h)) (by exact fun h => nomatch (show (none : Option Nat) = some 15 from h)) rfl rfl (by decide) (Nat.le_of_ble_eq_true rfl) (Nat.le_of_ble_eq_true rfl) rfl
theorem eX3_seek_18 : WP (MX3_seek g) Q (18, [l0, l1, l2], [.int a], w, k, n) = (k ≤ 0 ∧ n ≤ 0 ∧ Q (.inl (some (.int a))) w) := iretI_e rfl dX3_seek_18 rfl
end
theorem wk_1531 : (.code yX3_seekNow cX3_seekNow 5 (some .int) : Jvm.Cond) ∈ WS := WS_t7 33 rfl rfl
theorem wk_1528 : (.methodLink RX3 177 yX3_seekNow : Jvm.Cond) ∈ WS := WS_t7 30 rfl rfl
theorem wk_1530 : (.instanceMethod yX3_seekNow : Jvm.Cond) ∈ WS := WS_t7 32 rfl rfl
theorem wk_50 : (.selects RX3 yX3_seekNow yX3_seekNow : Jvm.Cond) ∈ WS := WS_at 50 (by decide +kernel) rfl
theorem vMX3_seek {l : Launch} (hl : l.stackTraces = false) (G : GT) : vM l G (MX3_seek (gg G)) := ⟨fun i c j h => lookup_all (l := (MX3_seek (gg G)).fld) (P := fun i e => vFld RX3 i e.1 e.2) (all_n) i (c, j) h, fun i c fs h => lookup_all (l := (MX3_seek (gg G)).new) (P := fun i e => vNew RX3 i e.1 e.2) (all_n) i (c, fs) h, lookup_all (l := (MX3_seek (gg G)).anew) (P := fun i e => vANew RX3 i e) (all_n), lookup_all (l := (MX3_seek (gg G)).lng) (P := fun i e => Jvm.Cond.constantLong RX3 i e ∈ WS) (all_n), lookup_all (l := (MX3_seek (gg G)).thr) (P := fun i e => vThr RX3 cX3_seek i e) (all_n), fun h => absurd rfl h, lookup_all (l := (MX3_seek (gg G)).cal) (P := fun i e => vCal l G RX3 i e) (all_c (⟨cX3_isNone, 2, some .boolean, fun y hy => by subst hy; exact ⟨by decide, ⟨_, wk_1410, okX3_isNone hl, Or.inl ⟨Nat.ne_of_beq_eq_false rfl, rfl⟩⟩, wk_60, ⟨(by decide : yX3_isNone.cls ≠ "java/lang/invoke/MethodHandle"), (by decide : yX3_isNone.cls ≠ "java/lang/invoke/VarHandle")⟩, ⟨(by decide +kernel : (parseMethodDescriptor yX3_isNone.desc).map (fun d => d.parameters.length + 1) = some 2), wk_1407, wk_1409, wk_44, (RX3, TX3, 7), rfl, rfl⟩⟩⟩) (all_c (⟨cX3_seekNow, 5, some .int, fun y hy => by subst hy; exact ⟨by decide, ⟨_, wk_1531, okX3_seekNow hl, Or.inl ⟨Nat.ne_of_beq_eq_false rfl, rfl⟩⟩, wk_60, ⟨(by decide : yX3_seekNow.cls ≠ "java/lang/invoke/MethodHandle"), (by decide : yX3_seekNow.cls ≠ "java/lang/invoke/VarHandle")⟩, ⟨(by decide +kernel : (parseMethodDescriptor yX3_seekNow.desc).map (fun d => d.parameters.length + 1) = some 3), wk_1528, wk_1530, wk_50, (RX3, TX3, 7), rfl, rfl⟩⟩⟩) (all_n))), lookup_all (l := (MX3_seek (gg G)).stt) (P := fun i e => vStt G RX3 i e) (all_n), lookup_all (l := (MX3_seek (gg G)).cst) (P := fun i e => vCst RX3 i e) (all_n), fun h => absurd rfl h, rfl, all_n⟩
theorem okX3_seek {l : Launch} (hl : l.stackTraces = false) {G : GT} : ∀ (args : List Value) (w : Hw) (S : Ot → Hw → Prop), spOf (MX3_seek (gg G)) args w S → CX l G yX3_seek (.code yX3_seek cX3_seek 3 (some .int)) 6 0 0 args w S := CX_sp (M := MX3_seek (gg G)) (y := yX3_seek) hl (by decide) rfl (vMX3_seek hl G) (fun h => by cases h) rfl
/-! RangecardModel.oftenNow(I)I -/
theorem dX3_oftenNow_0 : decode cX3_oftenNow 0 = .ok (.iconst 0, 1) := by decide +kernel
theorem dX3_oftenNow_1 : decode cX3_oftenNow 1 = .ok (.istore_n 2, 1) := by decide +kernel
theorem dX3_oftenNow_2 : decode cX3_oftenNow 2 = .ok (.aload_n 0, 1) := by decide +kernel
theorem dX3_oftenNow_3 : decode cX3_oftenNow 3 = .ok (.getfield 20, 3) := by decide +kernel
theorem dX3_oftenNow_6 : decode cX3_oftenNow 6 = .ok (.invokevirtual 181, 3) := by decide +kernel
theorem dX3_oftenNow_9 : decode cX3_oftenNow 9 = .ok (.astore_n 3, 1) := by decide +kernel
theorem dX3_oftenNow_10 : decode cX3_oftenNow 10 = .ok (.aload_n 3, 1) := by decide +kernel
theorem dX3_oftenNow_11 : decode cX3_oftenNow 11 = .ok (.invokeinterface 185 1, 5) := by decide +kernel
theorem dX3_oftenNow_16 : decode cX3_oftenNow 16 = .ok (.ifCond .eq 39, 3) := by decide +kernel
theorem dX3_oftenNow_19 : decode cX3_oftenNow 19 = .ok (.aload_n 3, 1) := by decide +kernel
theorem dX3_oftenNow_20 : decode cX3_oftenNow 20 = .ok (.invokeinterface 191 1, 5) := by decide +kernel
theorem dX3_oftenNow_25 : decode cX3_oftenNow 25 = .ok (.checkcast 125, 3) := by decide +kernel
theorem dX3_oftenNow_28 : decode cX3_oftenNow 28 = .ok (.astore 4, 2) := by decide +kernel
theorem dX3_oftenNow_30 : decode cX3_oftenNow 30 = .ok (.iload_n 2, 1) := by decide +kernel
theorem dX3_oftenNow_31 : decode cX3_oftenNow 31 = .ok (.aload 4, 2) := by decide +kernel
theorem dX3_oftenNow_33 : decode cX3_oftenNow 33 = .ok (.aload_n 0, 1) := by decide +kernel
theorem dX3_oftenNow_34 : decode cX3_oftenNow 34 = .ok (.getfield 16, 3) := by decide +kernel
theorem dX3_oftenNow_37 : decode cX3_oftenNow 37 = .ok (.iload_n 1, 1) := by decide +kernel
theorem dX3_oftenNow_38 : decode cX3_oftenNow 38 = .ok (.invokevirtual 42, 3) := by decide +kernel
theorem dX3_oftenNow_41 : decode cX3_oftenNow 41 = .ok (.checkcast 125, 3) := by decide +kernel
theorem dX3_oftenNow_44 : decode cX3_oftenNow 44 = .ok (.invokestatic 126, 3) := by decide +kernel
theorem dX3_oftenNow_47 : decode cX3_oftenNow 47 = .ok (.invokestatic 92, 3) := by decide +kernel
theorem dX3_oftenNow_50 : decode cX3_oftenNow 50 = .ok (.iadd, 1) := by decide +kernel
theorem dX3_oftenNow_51 : decode cX3_oftenNow 51 = .ok (.istore_n 2, 1) := by decide +kernel
theorem dX3_oftenNow_52 : decode cX3_oftenNow 52 = .ok (.goto (-42), 3) := by decide +kernel
theorem dX3_oftenNow_55 : decode cX3_oftenNow 55 = .ok (.iload_n 2, 1) := by decide +kernel
theorem dX3_oftenNow_56 : decode cX3_oftenNow 56 = .ok (.ireturn, 1) := by decide +kernel
def MX3_oftenNow (g : RO) : MT := ((RX3, cX3_oftenNow, 5, 4, 1, 4, false, some .int), [(20, 7, 3), (16, 7, 2)], [], [], [], [], 0, [(181, 2, 1, 3, 2, (fun _ _ => 1), (fun _ _ => 4), yJx4a65c_iterator_32c93, spOf (MJx4a65c_iterator_32c93 g)), (185, 6, 1, 2, 1, (fun _ _ => 0), (fun _ _ => 0), yJx35411_hasNext_aae02, spOf (MJx35411_hasNext_aae02 g)), (191, 6, 1, 2, 2, (fun _ _ => 0), (fun _ _ => 0), yJx35411_next_0502b, spOf (MJx35411_next_0502b g)), (42, 2, 2, 3, 3, (fun _ _ => 0), (fun _ _ => 0), yJx4a65c_get_915e3, spOf (MJx4a65c_get_915e3 g)), (126, 0, 2, 0, 1, (fun _ _ => 0), (fun _ _ => 0), yX3_same, spOf (MX3_same g)), (92, 0, 1, 0, 1, (fun _ _ => 0), (fun _ _ => 0), yX3_one, spOf (MX3_one g))], [], [(125, 0)], 0, [], [], g)
section
variable {g : RO} {Q : Ot → Hw → Prop} {st : List Value} {w : Hw} {k n p q : Nat} {a b : Int32} {x y : Int64} {u v : Value} {l0 l1 l2 l3 l4 : Option Value}
theorem eX3_oftenNow_0 : WP (MX3_oftenNow g) Q (0, [l0, l1, l2, l3, l4], st, w, k, n) = WP (MX3_oftenNow g) Q (1, [l0, l1, l2, l3, l4], .int 0 :: st, w, k, n) := iconst_e rfl dX3_oftenNow_0 (by decide)
theorem eX3_oftenNow_1 : WP (MX3_oftenNow g) Q (1, [l0, l1, l2, l3, l4], .int a :: st, w, k, n) = WP (MX3_oftenNow g) Q (2, [l0, nl l1, some (.int a), l3, l4], st, w, k, n) := by rw [WP_at (M := (MX3_oftenNow g)) rfl dX3_oftenNow_1 (Or.inr rfl)]; exact and_t (Nat.le_of_ble_eq_true rfl)
theorem eX3_oftenNow_2 : WP (MX3_oftenNow g) Q (2, [some (.ref p), l1, l2, l3, l4], st, w, k, n) = WP (MX3_oftenNow g) Q (3, [some (.ref p), l1, l2, l3, l4], .ref p :: st, w, k, n) := Eq.trans (WP_at (M := (MX3_oftenNow g)) rfl dX3_oftenNow_2 (Or.inr rfl)) rfl
theorem eX3_oftenNow_2N : WP (MX3_oftenNow g) Q (2, [some .null, l1, l2, l3, l4], st, w, k, n) = WP (MX3_oftenNow g) Q (3, [some .null, l1, l2, l3, l4], .null :: st, w, k, n) := Eq.trans (WP_at (M := (MX3_oftenNow g)) rfl dX3_oftenNow_2 (Or.inr rfl)) rfl
theorem eX3_oftenNow_3 : WP (MX3_oftenNow g) Q (3, [l0, l1, l2, l3, l4], .ref p :: st, w, k, n) = go (rd g w p) 7 fun fs => ∃ v, fs[3]? = some v ∧ WP (MX3_oftenNow g) Q (6, [l0, l1, l2, l3, l4], v :: st, w, k, n) := get_e rfl dX3_oftenNow_3 rfl
theorem eX3_oftenNow_6  : WP (MX3_oftenNow g) Q (6, [l0, l1, l2, l3, l4], .ref p :: st, w, k, n) = (go (rd g w p) 3 (fun _ => True) ∧ wt st ≤ 8 ∧ k + 1 ≤ 1 ∧ n + 4 ≤ 4 ∧ WP (MJx4a65c_iterator_32c93 g) (kx (fun v w' => WP (MX3_oftenNow g) Q (9, [l0, l1, l2, l3, l4], v.toList ++ st, w', k + 1, n + 4)) (fun E w' => Q (.inr E) w')) (0, [some (.ref p)], [], w, 0, 0)) := csV (M := (MX3_oftenNow g)) (mc := (fun _ _ => 1)) (ms := (fun _ _ => 4)) (As := []) (rest := st) (MJx4a65c_iterator_32c93 g) rfl rfl dX3_oftenNow_6 (by exact fun h => nomatch (show (none : Option Nat) = some 11 from h)) (by exact fun h => nomatch (show (none : Option Nat) = some 15 from h)) rfl rfl (by decide) (Nat.le_of_ble_eq_true rfl) (Nat.le_of_ble_eq_true rfl) rfl
theorem eX3_oftenNow_9 : WP (MX3_oftenNow g) Q (9, [l0, l1, l2, l3, l4], .ref p :: st, w, k, n) = WP (MX3_oftenNow g) Q (10, [l0, l1, nl l2, some (.ref p), l4], st, w, k, n) := by rw [WP_at (M := (MX3_oftenNow g)) rfl dX3_oftenNow_9 (Or.inr rfl)]; exact and_t (Nat.le_of_ble_eq_true rfl)
theorem eX3_oftenNow_9N : WP (MX3_oftenNow g) Q (9, [l0, l1, l2, l3, l4], .null :: st, w, k, n) = WP (MX3_oftenNow g) Q (10, [l0, l1, nl l2, some (.null), l4], st, w, k, n) := by rw [WP_at (M := (MX3_oftenNow g)) rfl dX3_oftenNow_9 (Or.inr rfl)]; exact and_t (Nat.le_of_ble_eq_true rfl)
theorem eX3_oftenNow_10 : WP (MX3_oftenNow g) Q (10, [l0, l1, l2, some (.ref p), l4], st, w, k, n) = WP (MX3_oftenNow g) Q (11, [l0, l1, l2, some (.ref p), l4], .ref p :: st, w, k, n) := Eq.trans (WP_at (M := (MX3_oftenNow g)) rfl dX3_oftenNow_10 (Or.inr rfl)) rfl
theorem eX3_oftenNow_11  : WP (MX3_oftenNow g) Q (11, [l0, l1, l2, l3, l4], .ref p :: st, w, k, n) = (go (rd g w p) 2 (fun _ => True) ∧ wt st ≤ 8 ∧ k + 0 ≤ 1 ∧ n + 0 ≤ 4 ∧ WP (MJx35411_hasNext_aae02 g) (kx (fun v w' => WP (MX3_oftenNow g) Q (16, [l0, l1, l2, l3, l4], v.toList ++ st, w', k + 0, n + 0)) (fun E w' => Q (.inr E) w')) (0, [some (.ref p)], [], w, 0, 0)) := csF (M := (MX3_oftenNow g)) (mc := (fun _ _ => 0)) (ms := (fun _ _ => 0)) (As := []) (rest := st) (MJx35411_hasNext_aae02 g) rfl rfl dX3_oftenNow_11 rfl rfl (Nat.le_of_ble_eq_true rfl) (Nat.le_of_ble_eq_true rfl) rfl
theorem eX3_oftenNow_16 : WP (MX3_oftenNow g) Q (16, [l0, l1, l2, l3, l4], .int a :: st, w, k, n) = if a = 0 then WP (MX3_oftenNow g) Q (55, [l0, l1, l2, l3, l4], st, w, k, n) else WP (MX3_oftenNow g) Q (19, [l0, l1, l2, l3, l4], st, w, k, n) := ifc_e (a = 0) rfl dX3_oftenNow_16 rfl (by decide)
theorem eX3_oftenNow_19 : WP (MX3_oftenNow g) Q (19, [l0, l1, l2, some (.ref p), l4], st, w, k, n) = WP (MX3_oftenNow g) Q (20, [l0, l1, l2, some (.ref p), l4], .ref p :: st, w, k, n) := Eq.trans (WP_at (M := (MX3_oftenNow g)) rfl dX3_oftenNow_19 (Or.inr rfl)) rfl
theorem eX3_oftenNow_19N : WP (MX3_oftenNow g) Q (19, [l0, l1, l2, some .null, l4], st, w, k, n) = WP (MX3_oftenNow g) Q (20, [l0, l1, l2, some .null, l4], .null :: st, w, k, n) := Eq.trans (WP_at (M := (MX3_oftenNow g)) rfl dX3_oftenNow_19 (Or.inr rfl)) rfl
theorem eX3_oftenNow_20  : WP (MX3_oftenNow g) Q (20, [l0, l1, l2, l3, l4], .ref p :: st, w, k, n) = (go (rd g w p) 2 (fun _ => True) ∧ wt st ≤ 8 ∧ k + 0 ≤ 1 ∧ n + 0 ≤ 4 ∧ WP (MJx35411_next_0502b g) (kx (fun v w' => WP (MX3_oftenNow g) Q (25, [l0, l1, l2, l3, l4], v.toList ++ st, w', k + 0, n + 0)) (fun E w' => Q (.inr E) w')) (0, [some (.ref p), none, none], [], w, 0, 0)) := csF (M := (MX3_oftenNow g)) (mc := (fun _ _ => 0)) (ms := (fun _ _ => 0)) (As := []) (rest := st) (MJx35411_next_0502b g) rfl rfl dX3_oftenNow_20 rfl rfl (Nat.le_of_ble_eq_true rfl) (Nat.le_of_ble_eq_true rfl) rfl
theorem eX3_oftenNow_25N : WP (MX3_oftenNow g) Q (25, [l0, l1, l2, l3, l4], .null :: st, w, k, n) = WP (MX3_oftenNow g) Q (28, [l0, l1, l2, l3, l4], .null :: st, w, k, n) := castN_e rfl dX3_oftenNow_25
theorem eX3_oftenNow_25R : WP (MX3_oftenNow g) Q (25, [l0, l1, l2, l3, l4], .ref p :: st, w, k, n) = ((∃ x, w p = some (.inl (0, x))) ∧ WP (MX3_oftenNow g) Q (28, [l0, l1, l2, l3, l4], .ref p :: st, w, k, n)) := castR_e rfl dX3_oftenNow_25 rfl
theorem eX3_oftenNow_28 : WP (MX3_oftenNow g) Q (28, [l0, l1, l2, l3, l4], .ref p :: st, w, k, n) = WP (MX3_oftenNow g) Q (30, [l0, l1, l2, nl l3, some (.ref p)], st, w, k, n) := by rw [WP_at (M := (MX3_oftenNow g)) rfl dX3_oftenNow_28 (Or.inr rfl)]; exact and_t (Nat.le_of_ble_eq_true rfl)
theorem eX3_oftenNow_28N : WP (MX3_oftenNow g) Q (28, [l0, l1, l2, l3, l4], .null :: st, w, k, n) = WP (MX3_oftenNow g) Q (30, [l0, l1, l2, nl l3, some (.null)], st, w, k, n) := by rw [WP_at (M := (MX3_oftenNow g)) rfl dX3_oftenNow_28 (Or.inr rfl)]; exact and_t (Nat.le_of_ble_eq_true rfl)
theorem eX3_oftenNow_30 : WP (MX3_oftenNow g) Q (30, [l0, l1, some (.int a), l3, l4], st, w, k, n) = WP (MX3_oftenNow g) Q (31, [l0, l1, some (.int a), l3, l4], .int a :: st, w, k, n) := Eq.trans (WP_at (M := (MX3_oftenNow g)) rfl dX3_oftenNow_30 (Or.inr rfl)) rfl
theorem eX3_oftenNow_31 : WP (MX3_oftenNow g) Q (31, [l0, l1, l2, l3, some (.ref p)], st, w, k, n) = WP (MX3_oftenNow g) Q (33, [l0, l1, l2, l3, some (.ref p)], .ref p :: st, w, k, n) := Eq.trans (WP_at (M := (MX3_oftenNow g)) rfl dX3_oftenNow_31 (Or.inr rfl)) rfl
theorem eX3_oftenNow_31N : WP (MX3_oftenNow g) Q (31, [l0, l1, l2, l3, some .null], st, w, k, n) = WP (MX3_oftenNow g) Q (33, [l0, l1, l2, l3, some .null], .null :: st, w, k, n) := Eq.trans (WP_at (M := (MX3_oftenNow g)) rfl dX3_oftenNow_31 (Or.inr rfl)) rfl
theorem eX3_oftenNow_33 : WP (MX3_oftenNow g) Q (33, [some (.ref p), l1, l2, l3, l4], st, w, k, n) = WP (MX3_oftenNow g) Q (34, [some (.ref p), l1, l2, l3, l4], .ref p :: st, w, k, n) := Eq.trans (WP_at (M := (MX3_oftenNow g)) rfl dX3_oftenNow_33 (Or.inr rfl)) rfl
theorem eX3_oftenNow_33N : WP (MX3_oftenNow g) Q (33, [some .null, l1, l2, l3, l4], st, w, k, n) = WP (MX3_oftenNow g) Q (34, [some .null, l1, l2, l3, l4], .null :: st, w, k, n) := Eq.trans (WP_at (M := (MX3_oftenNow g)) rfl dX3_oftenNow_33 (Or.inr rfl)) rfl
theorem eX3_oftenNow_34 : WP (MX3_oftenNow g) Q (34, [l0, l1, l2, l3, l4], .ref p :: st, w, k, n) = go (rd g w p) 7 fun fs => ∃ v, fs[2]? = some v ∧ WP (MX3_oftenNow g) Q (37, [l0, l1, l2, l3, l4], v :: st, w, k, n) := get_e rfl dX3_oftenNow_34 rfl
theorem eX3_oftenNow_37 : WP (MX3_oftenNow g) Q (37, [l0, some (.int a), l2, l3, l4], st, w, k, n) = WP (MX3_oftenNow g) Q (38, [l0, some (.int a), l2, l3, l4], .int a :: st, w, k, n) := Eq.trans (WP_at (M := (MX3_oftenNow g)) rfl dX3_oftenNow_37 (Or.inr rfl)) rfl
theorem eX3_oftenNow_38 {z0 : Int32} : WP (MX3_oftenNow g) Q (38, [l0, l1, l2, l3, l4], .int z0 :: .ref p :: st, w, k, n) = (go (rd g w p) 3 (fun _ => True) ∧ wt st ≤ 8 ∧ k + 0 ≤ 1 ∧ n + 0 ≤ 4 ∧ WP (MJx4a65c_get_915e3 g) (kx (fun v w' => WP (MX3_oftenNow g) Q (41, [l0, l1, l2, l3, l4], v.toList ++ st, w', k + 0, n + 0)) (fun E w' => Q (.inr E) w')) (0, [some (.ref p), some (.int z0)], [], w, 0, 0)) := csV (M := (MX3_oftenNow g)) (mc := (fun _ _ => 0)) (ms := (fun _ _ => 0)) (As := [.int z0]) (rest := st) (MJx4a65c_get_915e3 g) rfl rfl dX3_oftenNow_38 (by exact fun h => nomatch (show (none : Option Nat) = some 11 from h)) (by exact fun h => nomatch (show (none : Option Nat) = some 15 from h)) rfl rfl (by decide) (Nat.le_of_ble_eq_true rfl) (Nat.le_of_ble_eq_true rfl) rfl
theorem eX3_oftenNow_41N : WP (MX3_oftenNow g) Q (41, [l0, l1, l2, l3, l4], .null :: st, w, k, n) = WP (MX3_oftenNow g) Q (44, [l0, l1, l2, l3, l4], .null :: st, w, k, n) := castN_e rfl dX3_oftenNow_41
theorem eX3_oftenNow_41R : WP (MX3_oftenNow g) Q (41, [l0, l1, l2, l3, l4], .ref p :: st, w, k, n) = ((∃ x, w p = some (.inl (0, x))) ∧ WP (MX3_oftenNow g) Q (44, [l0, l1, l2, l3, l4], .ref p :: st, w, k, n)) := castR_e rfl dX3_oftenNow_41 rfl
theorem eX3_oftenNow_44RR {z0 : Nat} {z1 : Nat} : WP (MX3_oftenNow g) Q (44, [l0, l1, l2, l3, l4], .ref z1 :: .ref z0 :: st, w, k, n) = (wt st ≤ 8 ∧ k + 0 ≤ 1 ∧ n + 0 ≤ 4 ∧ WP (MX3_same g) (kx (fun v w' => WP (MX3_oftenNow g) Q (47, [l0, l1, l2, l3, l4], v.toList ++ st, w', k + 0, n + 0)) (fun E w' => Q (.inr E) w')) (0, [some (.ref z0), some (.ref z1), none, none], [], w, 0, 0)) := csS (M := (MX3_oftenNow g)) (mc := (fun _ _ => 0)) (ms := (fun _ _ => 0)) (As := [.ref z0, .ref z1]) (rest := st) (MX3_same g) rfl rfl dX3_oftenNow_44 (Nat.ne_of_beq_eq_false rfl) (by exact fun h => nomatch (show (none : Option Nat) = some 12 from h)) (by exact fun h => nomatch (show (none : Option Nat) = some 13 from h)) (by exact fun h => nomatch (show (none : Option Nat) = some 14 from h)) rfl rfl (by decide) (Nat.le_of_ble_eq_true rfl) (Nat.le_of_ble_eq_true rfl) rfl
theorem eX3_oftenNow_44NR {z1 : Nat} : WP (MX3_oftenNow g) Q (44, [l0, l1, l2, l3, l4], .ref z1 :: .null :: st, w, k, n) = (wt st ≤ 8 ∧ k + 0 ≤ 1 ∧ n + 0 ≤ 4 ∧ WP (MX3_same g) (kx (fun v w' => WP (MX3_oftenNow g) Q (47, [l0, l1, l2, l3, l4], v.toList ++ st, w', k + 0, n + 0)) (fun E w' => Q (.inr E) w')) (0, [some .null, some (.ref z1), none, none], [], w, 0, 0)) := csS (M := (MX3_oftenNow g)) (mc := (fun _ _ => 0)) (ms := (fun _ _ => 0)) (As := [.null, .ref z1]) (rest := st) (MX3_same g) rfl rfl dX3_oftenNow_44 (Nat.ne_of_beq_eq_false rfl) (by exact fun h => nomatch (show (none : Option Nat) = some 12 from h)) (by exact fun h => nomatch (show (none : Option Nat) = some 13 from h)) (by exact fun h => nomatch (show (none : Option Nat) = some 14 from h)) rfl rfl (by decide) (Nat.le_of_ble_eq_true rfl) (Nat.le_of_ble_eq_true rfl) rfl
theorem eX3_oftenNow_44RN {z0 : Nat} : WP (MX3_oftenNow g) Q (44, [l0, l1, l2, l3, l4], .null :: .ref z0 :: st, w, k, n) = (wt st ≤ 8 ∧ k + 0 ≤ 1 ∧ n + 0 ≤ 4 ∧ WP (MX3_same g) (kx (fun v w' => WP (MX3_oftenNow g) Q (47, [l0, l1, l2, l3, l4], v.toList ++ st, w', k + 0, n + 0)) (fun E w' => Q (.inr E) w')) (0, [some (.ref z0), some .null, none, none], [], w, 0, 0)) := csS (M := (MX3_oftenNow g)) (mc := (fun _ _ => 0)) (ms := (fun _ _ => 0)) (As := [.ref z0, .null]) (rest := st) (MX3_same g) rfl rfl dX3_oftenNow_44 (Nat.ne_of_beq_eq_false rfl) (by exact fun h => nomatch (show (none : Option Nat) = some 12 from h)) (by exact fun h => nomatch (show (none : Option Nat) = some 13 from h)) (by exact fun h => nomatch (show (none : Option Nat) = some 14 from h)) rfl rfl (by decide) (Nat.le_of_ble_eq_true rfl) (Nat.le_of_ble_eq_true rfl) rfl
theorem eX3_oftenNow_44NN  : WP (MX3_oftenNow g) Q (44, [l0, l1, l2, l3, l4], .null :: .null :: st, w, k, n) = (wt st ≤ 8 ∧ k + 0 ≤ 1 ∧ n + 0 ≤ 4 ∧ WP (MX3_same g) (kx (fun v w' => WP (MX3_oftenNow g) Q (47, [l0, l1, l2, l3, l4], v.toList ++ st, w', k + 0, n + 0)) (fun E w' => Q (.inr E) w')) (0, [some .null, some .null, none, none], [], w, 0, 0)) := csS (M := (MX3_oftenNow g)) (mc := (fun _ _ => 0)) (ms := (fun _ _ => 0)) (As := [.null, .null]) (rest := st) (MX3_same g) rfl rfl dX3_oftenNow_44 (Nat.ne_of_beq_eq_false rfl) (by exact fun h => nomatch (show (none : Option Nat) = some 12 from h)) (by exact fun h => nomatch (show (none : Option Nat) = some 13 from h)) (by exact fun h => nomatch (show (none : Option Nat) = some 14 from h)) rfl rfl (by decide) (Nat.le_of_ble_eq_true rfl) (Nat.le_of_ble_eq_true rfl) rfl
theorem eX3_oftenNow_47 {z0 : Int32} : WP (MX3_oftenNow g) Q (47, [l0, l1, l2, l3, l4], .int z0 :: st, w, k, n) = (wt st ≤ 8 ∧ k + 0 ≤ 1 ∧ n + 0 ≤ 4 ∧ WP (MX3_one g) (kx (fun v w' => WP (MX3_oftenNow g) Q (50, [l0, l1, l2, l3, l4], v.toList ++ st, w', k + 0, n + 0)) (fun E w' => Q (.inr E) w')) (0, [some (.int z0)], [], w, 0, 0)) := csS (M := (MX3_oftenNow g)) (mc := (fun _ _ => 0)) (ms := (fun _ _ => 0)) (As := [.int z0]) (rest := st) (MX3_one g) rfl rfl dX3_oftenNow_47 (Nat.ne_of_beq_eq_false rfl) (by exact fun h => nomatch (show (none : Option Nat) = some 12 from h)) (by exact fun h => nomatch (show (none : Option Nat) = some 13 from h)) (by exact fun h => nomatch (show (none : Option Nat) = some 14 from h)) rfl rfl (by decide) (Nat.le_of_ble_eq_true rfl) (Nat.le_of_ble_eq_true rfl) rfl
theorem eX3_oftenNow_50 : WP (MX3_oftenNow g) Q (50, [l0, l1, l2, l3, l4], .int b :: .int a :: st, w, k, n) = WP (MX3_oftenNow g) Q (51, [l0, l1, l2, l3, l4], .int (a + b) :: st, w, k, n) := Eq.trans (WP_at (M := (MX3_oftenNow g)) rfl dX3_oftenNow_50 (Or.inr rfl)) rfl
theorem eX3_oftenNow_51 : WP (MX3_oftenNow g) Q (51, [l0, l1, l2, l3, l4], .int a :: st, w, k, n) = WP (MX3_oftenNow g) Q (52, [l0, nl l1, some (.int a), l3, l4], st, w, k, n) := by rw [WP_at (M := (MX3_oftenNow g)) rfl dX3_oftenNow_51 (Or.inr rfl)]; exact and_t (Nat.le_of_ble_eq_true rfl)
theorem eX3_oftenNow_52 : WP (MX3_oftenNow g) Q (52, [l0, l1, l2, l3, l4], st, w, k, n) = WP (MX3_oftenNow g) Q (10, [l0, l1, l2, l3, l4], st, w, k, n) := goto_e rfl dX3_oftenNow_52 (by decide)
theorem eX3_oftenNow_55 : WP (MX3_oftenNow g) Q (55, [l0, l1, some (.int a), l3, l4], st, w, k, n) = WP (MX3_oftenNow g) Q (56, [l0, l1, some (.int a), l3, l4], .int a :: st, w, k, n) := Eq.trans (WP_at (M := (MX3_oftenNow g)) rfl dX3_oftenNow_55 (Or.inr rfl)) rfl
set_option maxRecDepth 20000 in
theorem eX3_oftenNow_56 : WP (MX3_oftenNow g) Q (56, [l0, l1, l2, l3, l4], [.int a], w, k, n) = (k ≤ 1 ∧ n ≤ 4 ∧ Q (.inl (some (.int a))) w) := iretI_e rfl dX3_oftenNow_56 rfl
end
theorem wk_1543 : (.code yJx4a65c_iterator_32c93 cJx4a65c_iterator_32c93 1 (some (.object "java/util/Iterator")) : Jvm.Cond) ∈ WS := WS_t7 45 rfl rfl
theorem wk_1540 : (.methodLink RX3 181 yJx4a65c_iterator_32c93 : Jvm.Cond) ∈ WS := WS_t7 42 rfl rfl
theorem wk_1541 : (.instanceMethod yJx4a65c_iterator_32c93 : Jvm.Cond) ∈ WS := WS_t7 43 rfl rfl
theorem wk_1542 : (.selects RJx4a65c yJx4a65c_iterator_32c93 yJx4a65c_iterator_32c93 : Jvm.Cond) ∈ WS := WS_t7 44 rfl rfl
theorem wk_1572 : (.code yJx35411_hasNext_aae02 cJx35411_hasNext_aae02 1 (some .boolean) : Jvm.Cond) ∈ WS := WS_t7 74 rfl rfl
theorem wk_1564 : (.methodLink RX3 185 (⟨"java/util/Iterator", "hasNext", "()Z"⟩ : MethodName) : Jvm.Cond) ∈ WS := WS_t7 66 rfl rfl
theorem wk_1570 : (.instanceMethod yJx35411_hasNext_aae02 : Jvm.Cond) ∈ WS := WS_t7 72 rfl rfl
theorem wk_1568 : (.selects RJx35411 (⟨"java/util/Iterator", "hasNext", "()Z"⟩ : MethodName) yJx35411_hasNext_aae02 : Jvm.Cond) ∈ WS := WS_t7 70 rfl rfl
theorem wk_1581 : (.code yJx35411_next_0502b cJx35411_next_0502b 3 (some (.object "java/lang/Object")) : Jvm.Cond) ∈ WS := WS_t7 83 rfl rfl
theorem wk_1574 : (.methodLink RX3 191 (⟨"java/util/Iterator", "next", "()Ljava/lang/Object;"⟩ : MethodName) : Jvm.Cond) ∈ WS := WS_t7 76 rfl rfl
theorem wk_1579 : (.instanceMethod yJx35411_next_0502b : Jvm.Cond) ∈ WS := WS_t7 81 rfl rfl
theorem wk_1577 : (.selects RJx35411 (⟨"java/util/Iterator", "next", "()Ljava/lang/Object;"⟩ : MethodName) yJx35411_next_0502b : Jvm.Cond) ∈ WS := WS_t7 79 rfl rfl
theorem vMX3_oftenNow {l : Launch} (hl : l.stackTraces = false) (G : GT) : vM l G (MX3_oftenNow (gg G)) := ⟨fun i c j h => lookup_all (l := (MX3_oftenNow (gg G)).fld) (P := fun i e => vFld RX3 i e.1 e.2) (all_c (vF_RX3_20) (all_c (vF_RX3_16) (all_n))) i (c, j) h, fun i c fs h => lookup_all (l := (MX3_oftenNow (gg G)).new) (P := fun i e => vNew RX3 i e.1 e.2) (all_n) i (c, fs) h, lookup_all (l := (MX3_oftenNow (gg G)).anew) (P := fun i e => vANew RX3 i e) (all_n), lookup_all (l := (MX3_oftenNow (gg G)).lng) (P := fun i e => Jvm.Cond.constantLong RX3 i e ∈ WS) (all_n), lookup_all (l := (MX3_oftenNow (gg G)).thr) (P := fun i e => vThr RX3 cX3_oftenNow i e) (all_n), fun h => absurd rfl h, lookup_all (l := (MX3_oftenNow (gg G)).cal) (P := fun i e => vCal l G RX3 i e) (all_c (⟨cJx4a65c_iterator_32c93, 1, some (.object "java/util/Iterator"), fun y hy => by subst hy; exact ⟨by decide, ⟨_, wk_1543, okJx4a65c_iterator_32c93 hl, Or.inl ⟨Nat.ne_of_beq_eq_false rfl, rfl⟩⟩, wk_63, ⟨(by decide : yJx4a65c_iterator_32c93.cls ≠ "java/lang/invoke/MethodHandle"), (by decide : yJx4a65c_iterator_32c93.cls ≠ "java/lang/invoke/VarHandle")⟩, ⟨(by decide +kernel : (parseMethodDescriptor yJx4a65c_iterator_32c93.desc).map (fun d => d.parameters.length + 1) = some 1), wk_1540, wk_1541, wk_1542, (RJx4a65c, TJx4a65c, 3), rfl, rfl⟩⟩⟩) (all_c (⟨cJx35411_hasNext_aae02, 1, some .boolean, fun y hy => by subst hy; exact ⟨by decide, ⟨_, wk_1572, okJx35411_hasNext_aae02 hl, Or.inl ⟨Nat.ne_of_beq_eq_false rfl, rfl⟩⟩, wk_87, ⟨(by decide : yJx35411_hasNext_aae02.cls ≠ "java/lang/invoke/MethodHandle"), (by decide : yJx35411_hasNext_aae02.cls ≠ "java/lang/invoke/VarHandle")⟩, ⟨(⟨"java/util/Iterator", "hasNext", "()Z"⟩ : MethodName), (by decide +kernel : (parseMethodDescriptor (⟨"java/util/Iterator", "hasNext", "()Z"⟩ : MethodName).desc).map (fun d => d.parameters.length + 1) = some 1), wk_1564, wk_1570, (RJx35411, TJx35411, 4), rfl, wk_1568, (by decide : (RJx35411, (⟨"java/util/Iterator", "hasNext", "()Z"⟩ : MethodName), yJx35411_hasNext_aae02) ∈ IFL)⟩⟩⟩) (all_c (⟨cJx35411_next_0502b, 3, some (.object "java/lang/Object"), fun y hy => by subst hy; exact ⟨by decide, ⟨_, wk_1581, okJx35411_next_0502b hl, Or.inl ⟨Nat.ne_of_beq_eq_false rfl, rfl⟩⟩, wk_87, ⟨(by decide : yJx35411_next_0502b.cls ≠ "java/lang/invoke/MethodHandle"), (by decide : yJx35411_next_0502b.cls ≠ "java/lang/invoke/VarHandle")⟩, ⟨(⟨"java/util/Iterator", "next", "()Ljava/lang/Object;"⟩ : MethodName), (by decide +kernel : (parseMethodDescriptor (⟨"java/util/Iterator", "next", "()Ljava/lang/Object;"⟩ : MethodName).desc).map (fun d => d.parameters.length + 1) = some 1), wk_1574, wk_1579, (RJx35411, TJx35411, 4), rfl, wk_1577, (by decide : (RJx35411, (⟨"java/util/Iterator", "next", "()Ljava/lang/Object;"⟩ : MethodName), yJx35411_next_0502b) ∈ IFL)⟩⟩⟩) (all_c (⟨cJx4a65c_get_915e3, 2, some (.object "java/lang/Object"), fun y hy => by subst hy; exact ⟨by decide, ⟨_, wk_1379, okJx4a65c_get_915e3 hl, Or.inl ⟨Nat.ne_of_beq_eq_false rfl, rfl⟩⟩, wk_63, ⟨(by decide : yJx4a65c_get_915e3.cls ≠ "java/lang/invoke/MethodHandle"), (by decide : yJx4a65c_get_915e3.cls ≠ "java/lang/invoke/VarHandle")⟩, ⟨(by decide +kernel : (parseMethodDescriptor yJx4a65c_get_915e3.desc).map (fun d => d.parameters.length + 1) = some 2), wk_1376, wk_1377, wk_1378, (RJx4a65c, TJx4a65c, 3), rfl, rfl⟩⟩⟩) (all_c (⟨cX3_same, 4, some .boolean, fun y hy => by subst hy; exact ⟨by decide, ⟨_, wk_1387, okX3_same hl, Or.inl ⟨Nat.ne_of_beq_eq_false rfl, rfl⟩⟩, wk_60, ⟨(by decide : yX3_same.cls ≠ "java/lang/invoke/MethodHandle"), (by decide : yX3_same.cls ≠ "java/lang/invoke/VarHandle")⟩, ⟨(by decide +kernel : (parseMethodDescriptor yX3_same.desc).map (fun d => d.parameters.length) = some 2), wk_1385, wk_1386⟩⟩⟩) (all_c (⟨cX3_one, 1, some .int, fun y hy => by subst hy; exact ⟨by decide, ⟨_, wk_1313, okX3_one hl, Or.inl ⟨Nat.ne_of_beq_eq_false rfl, rfl⟩⟩, wk_60, ⟨(by decide : yX3_one.cls ≠ "java/lang/invoke/MethodHandle"), (by decide : yX3_one.cls ≠ "java/lang/invoke/VarHandle")⟩, ⟨(by decide +kernel : (parseMethodDescriptor yX3_one.desc).map (fun d => d.parameters.length) = some 1), wk_1311, wk_1312⟩⟩⟩) (all_n))))))), lookup_all (l := (MX3_oftenNow (gg G)).stt) (P := fun i e => vStt G RX3 i e) (all_n), lookup_all (l := (MX3_oftenNow (gg G)).cst) (P := fun i e => vCst RX3 i e) (all_c (⟨.long, rfl, (fun C h => by cases h), wk_1380⟩) (all_n)), fun h => absurd rfl h, rfl, all_n⟩
theorem okX3_oftenNow {l : Launch} (hl : l.stackTraces = false) {G : GT} : ∀ (args : List Value) (w : Hw) (S : Ot → Hw → Prop), spOf (MX3_oftenNow (gg G)) args w S → CX l G yX3_oftenNow (.code yX3_oftenNow cX3_oftenNow 5 (some .int)) 4 1 4 args w S := CX_sp (M := MX3_oftenNow (gg G)) (y := yX3_oftenNow) hl (by decide) rfl (vMX3_oftenNow hl G) (fun h => by cases h) rfl
/-! RangecardModel.howOften(I)I -/
theorem dX3_howOften_0 : decode cX3_howOften 0 = .ok (.aload_n 0, 1) := by decide +kernel
theorem dX3_howOften_1 : decode cX3_howOften 1 = .ok (.iload_n 1, 1) := by decide +kernel
theorem dX3_howOften_2 : decode cX3_howOften 2 = .ok (.invokevirtual 134, 3) := by decide +kernel
theorem dX3_howOften_5 : decode cX3_howOften 5 = .ok (.ifCond .eq 7, 3) := by decide +kernel
theorem dX3_howOften_8 : decode cX3_howOften 8 = .ok (.iconst 0, 1) := by decide +kernel
theorem dX3_howOften_9 : decode cX3_howOften 9 = .ok (.goto 8, 3) := by decide +kernel
theorem dX3_howOften_12 : decode cX3_howOften 12 = .ok (.aload_n 0, 1) := by decide +kernel
theorem dX3_howOften_13 : decode cX3_howOften 13 = .ok (.iload_n 1, 1) := by decide +kernel
theorem dX3_howOften_14 : decode cX3_howOften 14 = .ok (.invokevirtual 195, 3) := by decide +kernel
theorem dX3_howOften_17 : decode cX3_howOften 17 = .ok (.ireturn, 1) := by decide +kernel
def MX3_howOften (g : RO) : MT := ((RX3, cX3_howOften, 2, 6, 1, 4, false, some .int), [], [], [], [], [], 0, [(134, 2, 2, 7, 5, (fun _ _ => 0), (fun _ _ => 0), yX3_isNone, spOf (MX3_isNone g)), (195, 2, 2, 7, 4, (fun _ _ => 1), (fun _ _ => 4), yX3_oftenNow, spOf (MX3_oftenNow g))], [], [], 0, [], [], g)
section
variable {g : RO} {Q : Ot → Hw → Prop} {st : List Value} {w : Hw} {k n p q : Nat} {a b : Int32} {x y : Int64} {u v : Value} {l0 l1 : Option Value}
theorem eX3_howOften_0 : WP (MX3_howOften g) Q (0, [some (.ref p), l1], st, w, k, n) = WP (MX3_howOften g) Q (1, [some (.ref p), l1], .ref p :: st, w, k, n) := Eq.trans (WP_at (M := (MX3_howOften g)) rfl dX3_howOften_0 (Or.inr rfl)) rfl
theorem eX3_howOften_0N : WP (MX3_howOften g) Q (0, [some .null, l1], st, w, k, n) = WP (MX3_howOften g) Q (1, [some .null, l1], .null :: st, w, k, n) := Eq.trans (WP_at (M := (MX3_howOften g)) rfl dX3_howOften_0 (Or.inr rfl)) rfl
theorem eX3_howOften_1 : WP (MX3_howOften g) Q (1, [l0, some (.int a)], st, w, k, n) = WP (MX3_howOften g) Q (2, [l0, some (.int a)], .int a :: st, w, k, n) := Eq.trans (WP_at (M := (MX3_howOften g)) rfl dX3_howOften_1 (Or.inr rfl)) rfl
theorem eX3_howOften_2 {z0 : Int32} : WP (MX3_howOften g) Q (2, [l0, l1], .int z0 :: .ref p :: st, w, k, n) = (go (rd g w p) 7 (fun _ => True) ∧ wt st ≤ 8 ∧ k + 0 ≤ 1 ∧ n + 0 ≤ 4 ∧ WP (MX3_isNone g) (kx (fun v w' => WP (MX3_howOften g) Q (5, [l0, l1], v.toList ++ st, w', k + 0, n + 0)) (fun E w' => Q (.inr E) w')) (0, [some (.ref p), some (.int z0)], [], w, 0, 0)) := csV (M := (MX3_howOften g)) (mc := (fun _ _ => 0)) (ms := (fun _ _ => 0)) (As := [.int z0]) (rest := st) (MX3_isNone g) rfl rfl dX3_howOften_2 (by exact fun h => nomatch (show (none : Option Nat) = some 11 from h)) (by exact fun h => nomatch (show (none : Option Nat) = some 15 from h)) rfl rfl (by decide) (Nat.le_of_ble_eq_true rfl) (Nat.le_of_ble_eq_true rfl) rfl
theorem eX3_howOften_5 : WP (MX3_howOften g) Q (5, [l0, l1], .int a :: st, w, k, n) = if a = 0 then WP (MX3_howOften g) Q (12, [l0, l1], st, w, k, n) else WP (MX3_howOften g) Q (8, [l0, l1], st, w, k, n) := ifc_e (a = 0) rfl dX3_howOften_5 rfl (by decide)
theorem eX3_howOften_8 : WP (MX3_howOften g) Q (8, [l0, l1], st, w, k, n) = WP (MX3_howOften g) Q (9, [l0, l1], .int 0 :: st, w, k, n) := iconst_e rfl dX3_howOften_8 (by decide)
theorem eX3_howOften_9 : WP (MX3_howOften g) Q (9, [l0, l1], st, w, k, n) = WP (MX3_howOften g) Q (17, [l0, l1], st, w, k, n) := goto_e rfl dX3_howOften_9 (by decide)
theorem eX3_howOften_12 : WP (MX3_howOften g) Q (12, [some (.ref p), l1], st, w, k, n) = WP (MX3_howOften g) Q (13, [some (.ref p), l1], .ref p :: st, w, k, n) := Eq.trans (WP_at (M := (MX3_howOften g)) rfl dX3_howOften_12 (Or.inr rfl)) rfl
theorem eX3_howOften_12N : WP (MX3_howOften g) Q (12, [some .null, l1], st, w, k, n) = WP (MX3_howOften g) Q (13, [some .null, l1], .null :: st, w, k, n) := Eq.trans (WP_at (M := (MX3_howOften g)) rfl dX3_howOften_12 (Or.inr rfl)) rfl
theorem eX3_howOften_13 : WP (MX3_howOften g) Q (13, [l0, some (.int a)], st, w, k, n) = WP (MX3_howOften g) Q (14, [l0, some (.int a)], .int a :: st, w, k, n) := Eq.trans (WP_at (M := (MX3_howOften g)) rfl dX3_howOften_13 (Or.inr rfl)) rfl
theorem eX3_howOften_14 {z0 : Int32} : WP (MX3_howOften g) Q (14, [l0, l1], .int z0 :: .ref p :: st, w, k, n) = (go (rd g w p) 7 (fun _ => True) ∧ wt st ≤ 8 ∧ k + 1 ≤ 1 ∧ n + 4 ≤ 4 ∧ WP (MX3_oftenNow g) (kx (fun v w' => WP (MX3_howOften g) Q (17, [l0, l1], v.toList ++ st, w', k + 1, n + 4)) (fun E w' => Q (.inr E) w')) (0, [some (.ref p), some (.int z0), none, none, none], [], w, 0, 0)) := csV (M := (MX3_howOften g)) (mc := (fun _ _ => 1)) (ms := (fun _ _ => 4)) (As := [.int z0]) (rest := st) (MX3_oftenNow g) rfl rfl dX3_howOften_14 (by exact fun h => nomatch (show (none : Option Nat) = some 11 from h)) (by exact fun h => nomatch (show (none : Option Nat) = some 15 from h)) rfl rfl (by decide) (Nat.le_of_ble_eq_true rfl) (Nat.le_of_ble_eq_true rfl) rfl
theorem eX3_howOften_17 : WP (MX3_howOften g) Q (17, [l0, l1], [.int a], w, k, n) = (k ≤ 1 ∧ n ≤ 4 ∧ Q (.inl (some (.int a))) w) := iretI_e rfl dX3_howOften_17 rfl
end
theorem wk_1539 : (.code yX3_oftenNow cX3_oftenNow 5 (some .int) : Jvm.Cond) ∈ WS := WS_t7 41 rfl rfl
theorem wk_1536 : (.methodLink RX3 195 yX3_oftenNow : Jvm.Cond) ∈ WS := WS_t7 38 rfl rfl
theorem wk_1538 : (.instanceMethod yX3_oftenNow : Jvm.Cond) ∈ WS := WS_t7 40 rfl rfl
theorem wk_51 : (.selects RX3 yX3_oftenNow yX3_oftenNow : Jvm.Cond) ∈ WS := WS_at 51 (by decide +kernel) rfl
theorem vMX3_howOften {l : Launch} (hl : l.stackTraces = false) (G : GT) : vM l G (MX3_howOften (gg G)) := ⟨fun i c j h => lookup_all (l := (MX3_howOften (gg G)).fld) (P := fun i e => vFld RX3 i e.1 e.2) (all_n) i (c, j) h, fun i c fs h => lookup_all (l := (MX3_howOften (gg G)).new) (P := fun i e => vNew RX3 i e.1 e.2) (all_n) i (c, fs) h, lookup_all (l := (MX3_howOften (gg G)).anew) (P := fun i e => vANew RX3 i e) (all_n), lookup_all (l := (MX3_howOften (gg G)).lng) (P := fun i e => Jvm.Cond.constantLong RX3 i e ∈ WS) (all_n), lookup_all (l := (MX3_howOften (gg G)).thr) (P := fun i e => vThr RX3 cX3_howOften i e) (all_n), fun h => absurd rfl h, lookup_all (l := (MX3_howOften (gg G)).cal) (P := fun i e => vCal l G RX3 i e) (all_c (⟨cX3_isNone, 2, some .boolean, fun y hy => by subst hy; exact ⟨by decide, ⟨_, wk_1410, okX3_isNone hl, Or.inl ⟨Nat.ne_of_beq_eq_false rfl, rfl⟩⟩, wk_60, ⟨(by decide : yX3_isNone.cls ≠ "java/lang/invoke/MethodHandle"), (by decide : yX3_isNone.cls ≠ "java/lang/invoke/VarHandle")⟩, ⟨(by decide +kernel : (parseMethodDescriptor yX3_isNone.desc).map (fun d => d.parameters.length + 1) = some 2), wk_1407, wk_1409, wk_44, (RX3, TX3, 7), rfl, rfl⟩⟩⟩) (all_c (⟨cX3_oftenNow, 5, some .int, fun y hy => by subst hy; exact ⟨by decide, ⟨_, wk_1539, okX3_oftenNow hl, Or.inl ⟨Nat.ne_of_beq_eq_false rfl, rfl⟩⟩, wk_60, ⟨(by decide : yX3_oftenNow.cls ≠ "java/lang/invoke/MethodHandle"), (by decide : yX3_oftenNow.cls ≠ "java/lang/invoke/VarHandle")⟩, ⟨(by decide +kernel : (parseMethodDescriptor yX3_oftenNow.desc).map (fun d => d.parameters.length + 1) = some 2), wk_1536, wk_1538, wk_51, (RX3, TX3, 7), rfl, rfl⟩⟩⟩) (all_n))), lookup_all (l := (MX3_howOften (gg G)).stt) (P := fun i e => vStt G RX3 i e) (all_n), lookup_all (l := (MX3_howOften (gg G)).cst) (P := fun i e => vCst RX3 i e) (all_n), fun h => absurd rfl h, rfl, all_n⟩
theorem okX3_howOften {l : Launch} (hl : l.stackTraces = false) {G : GT} : ∀ (args : List Value) (w : Hw) (S : Ot → Hw → Prop), spOf (MX3_howOften (gg G)) args w S → CX l G yX3_howOften (.code yX3_howOften cX3_howOften 2 (some .int)) 6 1 4 args w S := CX_sp (M := MX3_howOften (gg G)) (y := yX3_howOften) hl (by decide) rfl (vMX3_howOften hl G) (fun h => by cases h) rfl
/-! RangecardModel.lift(I)I -/
theorem dX3_lift_0 : decode cX3_lift 0 = .ok (.aload_n 0, 1) := by decide +kernel
theorem dX3_lift_1 : decode cX3_lift 1 = .ok (.iload_n 1, 1) := by decide +kernel
theorem dX3_lift_2 : decode cX3_lift 2 = .ok (.invokevirtual 134, 3) := by decide +kernel
theorem dX3_lift_5 : decode cX3_lift 5 = .ok (.ifCond .eq 5, 3) := by decide +kernel
theorem dX3_lift_8 : decode cX3_lift 8 = .ok (.iconst 0, 1) := by decide +kernel
theorem dX3_lift_9 : decode cX3_lift 9 = .ok (.ireturn, 1) := by decide +kernel
theorem dX3_lift_10 : decode cX3_lift 10 = .ok (.aload_n 0, 1) := by decide +kernel
theorem dX3_lift_11 : decode cX3_lift 11 = .ok (.iload_n 1, 1) := by decide +kernel
theorem dX3_lift_12 : decode cX3_lift 12 = .ok (.iconst 0, 1) := by decide +kernel
theorem dX3_lift_13 : decode cX3_lift 13 = .ok (.invokevirtual 177, 3) := by decide +kernel
theorem dX3_lift_16 : decode cX3_lift 16 = .ok (.istore_n 2, 1) := by decide +kernel
theorem dX3_lift_17 : decode cX3_lift 17 = .ok (.iload_n 2, 1) := by decide +kernel
theorem dX3_lift_18 : decode cX3_lift 18 = .ok (.iconst (-1), 1) := by decide +kernel
theorem dX3_lift_19 : decode cX3_lift 19 = .ok (.if_icmp .eq 12, 3) := by decide +kernel
theorem dX3_lift_22 : decode cX3_lift 22 = .ok (.aload_n 0, 1) := by decide +kernel
theorem dX3_lift_23 : decode cX3_lift 23 = .ok (.getfield 20, 3) := by decide +kernel
theorem dX3_lift_26 : decode cX3_lift 26 = .ok (.iload_n 2, 1) := by decide +kernel
theorem dX3_lift_27 : decode cX3_lift 27 = .ok (.invokevirtual 198, 3) := by decide +kernel
theorem dX3_lift_30 : decode cX3_lift 30 = .ok (.pop, 1) := by decide +kernel
theorem dX3_lift_31 : decode cX3_lift 31 = .ok (.iload_n 2, 1) := by decide +kernel
theorem dX3_lift_32 : decode cX3_lift 32 = .ok (.iconst (-1), 1) := by decide +kernel
theorem dX3_lift_33 : decode cX3_lift 33 = .ok (.if_icmp .eq 7, 3) := by decide +kernel
theorem dX3_lift_36 : decode cX3_lift 36 = .ok (.iconst 1, 1) := by decide +kernel
theorem dX3_lift_37 : decode cX3_lift 37 = .ok (.goto 4, 3) := by decide +kernel
theorem dX3_lift_40 : decode cX3_lift 40 = .ok (.iconst 0, 1) := by decide +kernel
theorem dX3_lift_41 : decode cX3_lift 41 = .ok (.invokestatic 92, 3) := by decide +kernel
theorem dX3_lift_44 : decode cX3_lift 44 = .ok (.ireturn, 1) := by decide +kernel
def MX3_lift (g : RO) : MT := ((RX3, cX3_lift, 3, 6, 0, 0, false, some .int), [(20, 7, 3)], [], [], [], [], 0, [(134, 2, 2, 7, 5, (fun _ _ => 0), (fun _ _ => 0), yX3_isNone, spOf (MX3_isNone g)), (177, 2, 3, 7, 4, (fun _ _ => 0), (fun _ _ => 0), yX3_seekNow, spOf (MX3_seekNow g)), (198, 2, 2, 3, 3, (fun _ _ => 0), (fun _ _ => 0), yJx4a65c_remove_915e3, spOf (MJx4a65c_remove_915e3 g)), (92, 0, 1, 0, 1, (fun _ _ => 0), (fun _ _ => 0), yX3_one, spOf (MX3_one g))], [], [], 0, [], [], g)
section
variable {g : RO} {Q : Ot → Hw → Prop} {st : List Value} {w : Hw} {k n p q : Nat} {a b : Int32} {x y : Int64} {u v : Value} {l0 l1 l2 : Option Value}
theorem eX3_lift_0 : WP (MX3_lift g) Q (0, [some (.ref p), l1, l2], st, w, k, n) = WP (MX3_lift g) Q (1, [some (.ref p), l1, l2], .ref p :: st, w, k, n) := Eq.trans (WP_at (M := (MX3_lift g)) rfl dX3_lift_0 (Or.inr rfl)) rfl
theorem eX3_lift_0N : WP (MX3_lift g) Q (0, [some .null, l1, l2], st, w, k, n) = WP (MX3_lift g) Q (1, [some .null, l1, l2], .null :: st, w, k, n) := Eq.trans (WP_at (M := (MX3_lift g)) rfl dX3_lift_0 (Or.inr rfl)) rfl
theorem eX3_lift_1 : WP (MX3_lift g) Q (1, [l0, some (.int a), l2], st, w, k, n) = WP (MX3_lift g) Q (2, [l0, some (.int a), l2], .int a :: st, w, k, n) := Eq.trans (WP_at (M := (MX3_lift g)) rfl dX3_lift_1 (Or.inr rfl)) rfl
theorem eX3_lift_2 {z0 : Int32} : WP (MX3_lift g) Q (2, [l0, l1, l2], .int z0 :: .ref p :: st, w, k, n) = (go (rd g w p) 7 (fun _ => True) ∧ wt st ≤ 8 ∧ k + 0 ≤ 0 ∧ n + 0 ≤ 0 ∧ WP (MX3_isNone g) (kx (fun v w' => WP (MX3_lift g) Q (5, [l0, l1, l2], v.toList ++ st, w', k + 0, n + 0)) (fun E w' => Q (.inr E) w')) (0, [some (.ref p), some (.int z0)], [], w, 0, 0)) := csV (M := (MX3_lift g)) (mc := (fun _ _ => 0)) (ms := (fun _ _ => 0)) (As := [.int z0]) (rest := st) (MX3_isNone g) rfl rfl dX3_lift_2 (by exact fun h => nomatch (show (none : Option Nat) = some 11 from h)) (by exact fun h => nomatch (show (none : Option Nat) = some 15 from h)) rfl rfl (by decide) (Nat.le_of_ble_eq_true rfl) (Nat.le_of_ble_eq_true rfl) rfl
theorem eX3_lift_5 : WP (MX3_lift g) Q (5, [l0, l1, l2], .int a :: st, w, k, n) = if a = 0 then WP (MX3_lift g) Q (10, [l0, l1, l2], st, w, k, n) else WP (MX3_lift g) Q (8, [l0, l1, l2], st, w, k, n) := ifc_e (a = 0) rfl dX3_lift_5 rfl (by decide)
theorem eX3_lift_8 : WP (MX3_lift g) Q (8, [l0, l1, l2], st, w, k, n) = WP (MX3_lift g) Q (9, [l0, l1, l2], .int 0 :: st, w, k, n) := iconst_e rfl dX3_lift_8 (by decide)
theorem eX3_lift_9 : WP (MX3_lift g) Q (9, [l0, l1, l2], [.int a], w, k, n) = (k ≤ 0 ∧ n ≤ 0 ∧ Q (.inl (some (.int a))) w) := iretI_e rfl dX3_lift_9 rfl
theorem eX3_lift_10 : WP (MX3_lift g) Q (10, [some (.ref p), l1, l2], st, w, k, n) = WP (MX3_lift g) Q (11, [some (.ref p), l1, l2], .ref p :: st, w, k, n) := Eq.trans (WP_at (M := (MX3_lift g)) rfl dX3_lift_10 (Or.inr rfl)) rfl
theorem eX3_lift_10N : WP (MX3_lift g) Q (10, [some .null, l1, l2], st, w, k, n) = WP (MX3_lift g) Q (11, [some .null, l1, l2], .null :: st, w, k, n) := Eq.trans (WP_at (M := (MX3_lift g)) rfl dX3_lift_10 (Or.inr rfl)) rfl
theorem eX3_lift_11 : WP (MX3_lift g) Q (11, [l0, some (.int a), l2], st, w, k, n) = WP (MX3_lift g) Q (12, [l0, some (.int a), l2], .int a :: st, w, k, n) := Eq.trans (WP_at (M := (MX3_lift g)) rfl dX3_lift_11 (Or.inr rfl)) rfl
theorem eX3_lift_12 : WP (MX3_lift g) Q (12, [l0, l1, l2], st, w, k, n) = WP (MX3_lift g) Q (13, [l0, l1, l2], .int 0 :: st, w, k, n) := iconst_e rfl dX3_lift_12 (by decide)
theorem eX3_lift_13 {z0 : Int32} {z1 : Int32} : WP (MX3_lift g) Q (13, [l0, l1, l2], .int z1 :: .int z0 :: .ref p :: st, w, k, n) = (go (rd g w p) 7 (fun _ => True) ∧ wt st ≤ 8 ∧ k + 0 ≤ 0 ∧ n + 0 ≤ 0 ∧ WP (MX3_seekNow g) (kx (fun v w' => WP (MX3_lift g) Q (16, [l0, l1, l2], v.toList ++ st, w', k + 0, n + 0)) (fun E w' => Q (.inr E) w')) (0, [some (.ref p), some (.int z0), some (.int z1), none, none], [], w, 0, 0)) := csV (M := (MX3_lift g)) (mc := (fun _ _ => 0)) (ms := (fun _ _ => 0)) (As := [.int z0, .int z1]) (rest := st) (MX3_seekNow g) rfl rfl dX3_lift_13 (by exact fun h => nomatch (show (none : Option Nat) = some 11 from h)) (by exact fun h => nomatch (show (none : Option Nat) = some 15 from h)) rfl rfl (by decide) (Nat.le_of_ble_eq_true rfl) (Nat.le_of_ble_eq_true rfl) rfl
theorem eX3_lift_16 : WP (MX3_lift g) Q (16, [l0, l1, l2], .int a :: st, w, k, n) = WP (MX3_lift g) Q (17, [l0, nl l1, some (.int a)], st, w, k, n) := by rw [WP_at (M := (MX3_lift g)) rfl dX3_lift_16 (Or.inr rfl)]; exact and_t (Nat.le_of_ble_eq_true rfl)
theorem eX3_lift_17 : WP (MX3_lift g) Q (17, [l0, l1, some (.int a)], st, w, k, n) = WP (MX3_lift g) Q (18, [l0, l1, some (.int a)], .int a :: st, w, k, n) := Eq.trans (WP_at (M := (MX3_lift g)) rfl dX3_lift_17 (Or.inr rfl)) rfl
theorem eX3_lift_18 : WP (MX3_lift g) Q (18, [l0, l1, l2], st, w, k, n) = WP (MX3_lift g) Q (19, [l0, l1, l2], .int (-1) :: st, w, k, n) := iconst_e rfl dX3_lift_18 (by decide)
theorem eX3_lift_19 : WP (MX3_lift g) Q (19, [l0, l1, l2], .int b :: .int a :: st, w, k, n) = if a = b then WP (MX3_lift g) Q (31, [l0, l1, l2], st, w, k, n) else WP (MX3_lift g) Q (22, [l0, l1, l2], st, w, k, n) := icm_e (a = b) rfl dX3_lift_19 rfl (by decide)
theorem eX3_lift_22 : WP (MX3_lift g) Q (22, [some (.ref p), l1, l2], st, w, k, n) = WP (MX3_lift g) Q (23, [some (.ref p), l1, l2], .ref p :: st, w, k, n) := Eq.trans (WP_at (M := (MX3_lift g)) rfl dX3_lift_22 (Or.inr rfl)) rfl
theorem eX3_lift_22N : WP (MX3_lift g) Q (22, [some .null, l1, l2], st, w, k, n) = WP (MX3_lift g) Q (23, [some .null, l1, l2], .null :: st, w, k, n) := Eq.trans (WP_at (M := (MX3_lift g)) rfl dX3_lift_22 (Or.inr rfl)) rfl
theorem eX3_lift_23 : WP (MX3_lift g) Q (23, [l0, l1, l2], .ref p :: st, w, k, n) = go (rd g w p) 7 fun fs => ∃ v, fs[3]? = some v ∧ WP (MX3_lift g) Q (26, [l0, l1, l2], v :: st, w, k, n) := get_e rfl dX3_lift_23 rfl
theorem eX3_lift_26 : WP (MX3_lift g) Q (26, [l0, l1, some (.int a)], st, w, k, n) = WP (MX3_lift g) Q (27, [l0, l1, some (.int a)], .int a :: st, w, k, n) := Eq.trans (WP_at (M := (MX3_lift g)) rfl dX3_lift_26 (Or.inr rfl)) rfl
theorem eX3_lift_27 {z0 : Int32} : WP (MX3_lift g) Q (27, [l0, l1, l2], .int z0 :: .ref p :: st, w, k, n) = (go (rd g w p) 3 (fun _ => True) ∧ wt st ≤ 8 ∧ k + 0 ≤ 0 ∧ n + 0 ≤ 0 ∧ WP (MJx4a65c_remove_915e3 g) (kx (fun v w' => WP (MX3_lift g) Q (30, [l0, l1, l2], v.toList ++ st, w', k + 0, n + 0)) (fun E w' => Q (.inr E) w')) (0, [some (.ref p), some (.int z0), none, none], [], w, 0, 0)) := csV (M := (MX3_lift g)) (mc := (fun _ _ => 0)) (ms := (fun _ _ => 0)) (As := [.int z0]) (rest := st) (MJx4a65c_remove_915e3 g) rfl rfl dX3_lift_27 (by exact fun h => nomatch (show (none : Option Nat) = some 11 from h)) (by exact fun h => nomatch (show (none : Option Nat) = some 15 from h)) rfl rfl (by decide) (Nat.le_of_ble_eq_true rfl) (Nat.le_of_ble_eq_true rfl) rfl
theorem eX3_lift_30 : WP (MX3_lift g) Q (30, [l0, l1, l2], .int a :: st, w, k, n) = WP (MX3_lift g) Q (31, [l0, l1, l2], st, w, k, n) := by rw [WP_at (M := (MX3_lift g)) rfl dX3_lift_30 (Or.inr rfl)]; exact and_t rfl
theorem eX3_lift_30R : WP (MX3_lift g) Q (30, [l0, l1, l2], .ref p :: st, w, k, n) = WP (MX3_lift g) Q (31, [l0, l1, l2], st, w, k, n) := by rw [WP_at (M := (MX3_lift g)) rfl dX3_lift_30 (Or.inr rfl)]; exact and_t rfl
theorem eX3_lift_30N : WP (MX3_lift g) Q (30, [l0, l1, l2], .null :: st, w, k, n) = WP (MX3_lift g) Q (31, [l0, l1, l2], st, w, k, n) := by rw [WP_at (M := (MX3_lift g)) rfl dX3_lift_30 (Or.inr rfl)]; exact and_t rfl
theorem eX3_lift_31 : WP (MX3_lift g) Q (31, [l0, l1, some (.int a)], st, w, k, n) = WP (MX3_lift g) Q (32, [l0, l1, some (.int a)], .int a :: st, w, k, n) := Eq.trans (WP_at (M := (MX3_lift g)) rfl dX3_lift_31 (Or.inr rfl)) rfl
theorem eX3_lift_32 : WP (MX3_lift g) Q (32, [l0, l1, l2], st, w, k, n) = WP (MX3_lift g) Q (33, [l0, l1, l2], .int (-1) :: st, w, k, n) := iconst_e rfl dX3_lift_32 (by decide)
theorem eX3_lift_33 : WP (MX3_lift g) Q (33, [l0, l1, l2], .int b :: .int a :: st, w, k, n) = if a = b then WP (MX3_lift g) Q (40, [l0, l1, l2], st, w, k, n) else WP (MX3_lift g) Q (36, [l0, l1, l2], st, w, k, n) := icm_e (a = b) rfl dX3_lift_33 rfl (by decide)
theorem eX3_lift_36 : WP (MX3_lift g) Q (36, [l0, l1, l2], st, w, k, n) = WP (MX3_lift g) Q (37, [l0, l1, l2], .int 1 :: st, w, k, n) := iconst_e rfl dX3_lift_36 (by decide)
theorem eX3_lift_37 : WP (MX3_lift g) Q (37, [l0, l1, l2], st, w, k, n) = WP (MX3_lift g) Q (41, [l0, l1, l2], st, w, k, n) := goto_e rfl dX3_lift_37 (by decide)
theorem eX3_lift_40 : WP (MX3_lift g) Q (40, [l0, l1, l2], st, w, k, n) = WP (MX3_lift g) Q (41, [l0, l1, l2], .int 0 :: st, w, k, n) := iconst_e rfl dX3_lift_40 (by decide)
theorem eX3_lift_41 {z0 : Int32} : WP (MX3_lift g) Q (41, [l0, l1, l2], .int z0 :: st, w, k, n) = (wt st ≤ 8 ∧ k + 0 ≤ 0 ∧ n + 0 ≤ 0 ∧ WP (MX3_one g) (kx (fun v w' => WP (MX3_lift g) Q (44, [l0, l1, l2], v.toList ++ st, w', k + 0, n + 0)) (fun E w' => Q (.inr E) w')) (0, [some (.int z0)], [], w, 0, 0)) := csS (M := (MX3_lift g)) (mc := (fun _ _ => 0)) (ms := (fun _ _ => 0)) (As := [.int z0]) (rest := st) (MX3_one g) rfl rfl dX3_lift_41 (Nat.ne_of_beq_eq_false rfl) (by exact fun h => nomatch (show (none : Option Nat) = some 12 from h)) (by exact fun h => nomatch (show (none : Option Nat) = some 13 from h)) (by exact fun h => nomatch (show (none : Option Nat) = some 14 from h)) rfl rfl (by decide) (Nat.le_of_ble_eq_true rfl) (Nat.le_of_ble_eq_true rfl) rfl
set_option maxRecDepth 20000 in
theorem eX3_lift_44 : WP (MX3_lift g) Q (44, [l0, l1, l2], [.int a], w, k, n) = (k ≤ 0 ∧ n ≤ 0 ∧ Q (.inl (some (.int a))) w) := iretI_e rfl dX3_lift_44 rfl
end
theorem wk_1593 : (.code yJx4a65c_remove_915e3 cJx4a65c_remove_915e3 4 (some (.object "java/lang/Object")) : Jvm.Cond) ∈ WS := WS_t7 95 rfl rfl
theorem wk_1590 : (.methodLink RX3 198 yJx4a65c_remove_915e3 : Jvm.Cond) ∈ WS := WS_t7 92 rfl rfl
theorem wk_1591 : (.instanceMethod yJx4a65c_remove_915e3 : Jvm.Cond) ∈ WS := WS_t7 93 rfl rfl
theorem wk_1592 : (.selects RJx4a65c yJx4a65c_remove_915e3 yJx4a65c_remove_915e3 : Jvm.Cond) ∈ WS := WS_t7 94 rfl rfl
theorem vMX3_lift {l : Launch} (hl : l.stackTraces = false) (G : GT) : vM l G (MX3_lift (gg G)) := ⟨fun i c j h => lookup_all (l := (MX3_lift (gg G)).fld) (P := fun i e => vFld RX3 i e.1 e.2) (all_c (vF_RX3_20) (all_n)) i (c, j) h, fun i c fs h => lookup_all (l := (MX3_lift (gg G)).new) (P := fun i e => vNew RX3 i e.1 e.2) (all_n) i (c, fs) h, lookup_all (l := (MX3_lift (gg G)).anew) (P := fun i e => vANew RX3 i e) (all_n), lookup_all (l := (MX3_lift (gg G)).lng) (P := fun i e => Jvm.Cond.constantLong RX3 i e ∈ WS) (all_n), lookup_all (l := (MX3_lift (gg G)).thr) (P := fun i e => vThr RX3 cX3_lift i e) (all_n), fun h => absurd rfl h, lookup_all (l := (MX3_lift (gg G)).cal) (P := fun i e => vCal l G RX3 i e) (all_c (⟨cX3_isNone, 2, some .boolean, fun y hy => by subst hy; exact ⟨by decide, ⟨_, wk_1410, okX3_isNone hl, Or.inl ⟨Nat.ne_of_beq_eq_false rfl, rfl⟩⟩, wk_60, ⟨(by decide : yX3_isNone.cls ≠ "java/lang/invoke/MethodHandle"), (by decide : yX3_isNone.cls ≠ "java/lang/invoke/VarHandle")⟩, ⟨(by decide +kernel : (parseMethodDescriptor yX3_isNone.desc).map (fun d => d.parameters.length + 1) = some 2), wk_1407, wk_1409, wk_44, (RX3, TX3, 7), rfl, rfl⟩⟩⟩) (all_c (⟨cX3_seekNow, 5, some .int, fun y hy => by subst hy; exact ⟨by decide, ⟨_, wk_1531, okX3_seekNow hl, Or.inl ⟨Nat.ne_of_beq_eq_false rfl, rfl⟩⟩, wk_60, ⟨(by decide : yX3_seekNow.cls ≠ "java/lang/invoke/MethodHandle"), (by decide : yX3_seekNow.cls ≠ "java/lang/invoke/VarHandle")⟩, ⟨(by decide +kernel : (parseMethodDescriptor yX3_seekNow.desc).map (fun d => d.parameters.length + 1) = some 3), wk_1528, wk_1530, wk_50, (RX3, TX3, 7), rfl, rfl⟩⟩⟩) (all_c (⟨cJx4a65c_remove_915e3, 4, some (.object "java/lang/Object"), fun y hy => by subst hy; exact ⟨by decide, ⟨_, wk_1593, okJx4a65c_remove_915e3 hl, Or.inl ⟨Nat.ne_of_beq_eq_false rfl, rfl⟩⟩, wk_63, ⟨(by decide : yJx4a65c_remove_915e3.cls ≠ "java/lang/invoke/MethodHandle"), (by decide : yJx4a65c_remove_915e3.cls ≠ "java/lang/invoke/VarHandle")⟩, ⟨(by decide +kernel : (parseMethodDescriptor yJx4a65c_remove_915e3.desc).map (fun d => d.parameters.length + 1) = some 2), wk_1590, wk_1591, wk_1592, (RJx4a65c, TJx4a65c, 3), rfl, rfl⟩⟩⟩) (all_c (⟨cX3_one, 1, some .int, fun y hy => by subst hy; exact ⟨by decide, ⟨_, wk_1313, okX3_one hl, Or.inl ⟨Nat.ne_of_beq_eq_false rfl, rfl⟩⟩, wk_60, ⟨(by decide : yX3_one.cls ≠ "java/lang/invoke/MethodHandle"), (by decide : yX3_one.cls ≠ "java/lang/invoke/VarHandle")⟩, ⟨(by decide +kernel : (parseMethodDescriptor yX3_one.desc).map (fun d => d.parameters.length) = some 1), wk_1311, wk_1312⟩⟩⟩) (all_n))))), lookup_all (l := (MX3_lift (gg G)).stt) (P := fun i e => vStt G RX3 i e) (all_n), lookup_all (l := (MX3_lift (gg G)).cst) (P := fun i e => vCst RX3 i e) (all_n), fun h => absurd rfl h, rfl, all_n⟩
theorem okX3_lift {l : Launch} (hl : l.stackTraces = false) {G : GT} : ∀ (args : List Value) (w : Hw) (S : Ot → Hw → Prop), spOf (MX3_lift (gg G)) args w S → CX l G yX3_lift (.code yX3_lift cX3_lift 3 (some .int)) 6 0 0 args w S := CX_sp (M := MX3_lift (gg G)) (y := yX3_lift) hl (by decide) rfl (vMX3_lift hl G) (fun h => by cases h) rfl
end
/-! 40.model12.lean.txt -/
section
/-! RangecardModel.pick(II)I -/
theorem dX3_pick_0 : decode cX3_pick 0 = .ok (.aload_n 0, 1) := by decide +kernel
theorem dX3_pick_1 : decode cX3_pick 1 = .ok (.iload_n 1, 1) := by decide +kernel
theorem dX3_pick_2 : decode cX3_pick 2 = .ok (.iconst 0, 1) := by decide +kernel
theorem dX3_pick_3 : decode cX3_pick 3 = .ok (.aload_n 0, 1) := by decide +kernel
theorem dX3_pick_4 : decode cX3_pick 4 = .ok (.getfield 20, 3) := by decide +kernel
theorem dX3_pick_7 : decode cX3_pick 7 = .ok (.invokevirtual 174, 3) := by decide +kernel
theorem dX3_pick_10 : decode cX3_pick 10 = .ok (.iconst 1, 1) := by decide +kernel
theorem dX3_pick_11 : decode cX3_pick 11 = .ok (.isub, 1) := by decide +kernel
theorem dX3_pick_12 : decode cX3_pick 12 = .ok (.invokestatic 38, 3) := by decide +kernel
theorem dX3_pick_15 : decode cX3_pick 15 = .ok (.ifCond .eq 10, 3) := by decide +kernel
theorem dX3_pick_18 : decode cX3_pick 18 = .ok (.iload_n 2, 1) := by decide +kernel
theorem dX3_pick_19 : decode cX3_pick 19 = .ok (.invokestatic 111, 3) := by decide +kernel
theorem dX3_pick_22 : decode cX3_pick 22 = .ok (.ifCond .eq 7, 3) := by decide +kernel
theorem dX3_pick_25 : decode cX3_pick 25 = .ok (.iconst 1, 1) := by decide +kernel
theorem dX3_pick_26 : decode cX3_pick 26 = .ok (.goto 4, 3) := by decide +kernel
theorem dX3_pick_29 : decode cX3_pick 29 = .ok (.iconst 0, 1) := by decide +kernel
theorem dX3_pick_30 : decode cX3_pick 30 = .ok (.iconst 1, 1) := by decide +kernel
theorem dX3_pick_31 : decode cX3_pick 31 = .ok (.invokevirtual 54, 3) := by decide +kernel
theorem dX3_pick_34 : decode cX3_pick 34 = .ok (.ifCond .eq 5, 3) := by decide +kernel
theorem dX3_pick_37 : decode cX3_pick 37 = .ok (.iconst 0, 1) := by decide +kernel
theorem dX3_pick_38 : decode cX3_pick 38 = .ok (.ireturn, 1) := by decide +kernel
theorem dX3_pick_39 : decode cX3_pick 39 = .ok (.aload_n 0, 1) := by decide +kernel
theorem dX3_pick_40 : decode cX3_pick 40 = .ok (.iload_n 2, 1) := by decide +kernel
theorem dX3_pick_41 : decode cX3_pick 41 = .ok (.invokevirtual 118, 3) := by decide +kernel
theorem dX3_pick_44 : decode cX3_pick 44 = .ok (.ifCond .ne 7, 3) := by decide +kernel
theorem dX3_pick_47 : decode cX3_pick 47 = .ok (.iconst 1, 1) := by decide +kernel
theorem dX3_pick_48 : decode cX3_pick 48 = .ok (.goto 4, 3) := by decide +kernel
theorem dX3_pick_51 : decode cX3_pick 51 = .ok (.iconst 0, 1) := by decide +kernel
theorem dX3_pick_52 : decode cX3_pick 52 = .ok (.invokestatic 92, 3) := by decide +kernel
theorem dX3_pick_55 : decode cX3_pick 55 = .ok (.istore_n 3, 1) := by decide +kernel
theorem dX3_pick_56 : decode cX3_pick 56 = .ok (.aload_n 0, 1) := by decide +kernel
theorem dX3_pick_57 : decode cX3_pick 57 = .ok (.getfield 16, 3) := by decide +kernel
theorem dX3_pick_60 : decode cX3_pick 60 = .ok (.iload_n 2, 1) := by decide +kernel
theorem dX3_pick_61 : decode cX3_pick 61 = .ok (.aload_n 0, 1) := by decide +kernel
theorem dX3_pick_62 : decode cX3_pick 62 = .ok (.getfield 20, 3) := by decide +kernel
theorem dX3_pick_65 : decode cX3_pick 65 = .ok (.iload_n 1, 1) := by decide +kernel
theorem dX3_pick_66 : decode cX3_pick 66 = .ok (.invokevirtual 42, 3) := by decide +kernel
theorem dX3_pick_69 : decode cX3_pick 69 = .ok (.checkcast 125, 3) := by decide +kernel
theorem dX3_pick_72 : decode cX3_pick 72 = .ok (.invokevirtual 104, 3) := by decide +kernel
theorem dX3_pick_75 : decode cX3_pick 75 = .ok (.pop, 1) := by decide +kernel
theorem dX3_pick_76 : decode cX3_pick 76 = .ok (.iload_n 3, 1) := by decide +kernel
theorem dX3_pick_77 : decode cX3_pick 77 = .ok (.ireturn, 1) := by decide +kernel
def MX3_pick (g : RO) : MT := ((RX3, cX3_pick, 4, 5, 0, 0, false, some .int), [(20, 7, 3), (16, 7, 2)], [], [], [], [], 0, [(174, 2, 1, 3, 1, (fun _ _ => 0), (fun _ _ => 0), yJx4a65c_size_8abf5, spOf (MJx4a65c_size_8abf5 g)), (38, 0, 3, 0, 1, (fun _ _ => 0), (fun _ _ => 0), yX3_isIn, spOf (MX3_isIn g)), (111, 0, 1, 0, 2, (fun _ _ => 0), (fun _ _ => 0), yX3_isNoCard, spOf (MX3_isNoCard g)), (54, 2, 3, 7, 2, (fun _ _ => 0), (fun _ _ => 0), yX3_start, spOf (MX3_start g)), (118, 2, 2, 7, 4, (fun _ _ => 0), (fun _ _ => 0), yX3_isBare, spOf (MX3_isBare g)), (92, 0, 1, 0, 1, (fun _ _ => 0), (fun _ _ => 0), yX3_one, spOf (MX3_one g)), (42, 2, 2, 3, 3, (fun _ _ => 0), (fun _ _ => 0), yJx4a65c_get_915e3, spOf (MJx4a65c_get_915e3 g)), (104, 2, 3, 3, 3, (fun _ _ => 0), (fun _ _ => 0), yJx4a65c_set_bcc79, spOf (MJx4a65c_set_bcc79 g))], [], [(125, 0)], 0, [], [], g)
section
variable {g : RO} {Q : Ot → Hw → Prop} {st : List Value} {w : Hw} {k n p q : Nat} {a b : Int32} {x y : Int64} {u v : Value} {l0 l1 l2 l3 : Option Value}
theorem eX3_pick_0 : WP (MX3_pick g) Q (0, [some (.ref p), l1, l2, l3], st, w, k, n) = WP (MX3_pick g) Q (1, [some (.ref p), l1, l2, l3], .ref p :: st, w, k, n) := Eq.trans (WP_at (M := (MX3_pick g)) rfl dX3_pick_0 (Or.inr rfl)) rfl
theorem eX3_pick_0N : WP (MX3_pick g) Q (0, [some .null, l1, l2, l3], st, w, k, n) = WP (MX3_pick g) Q (1, [some .null, l1, l2, l3], .null :: st, w, k, n) := Eq.trans (WP_at (M := (MX3_pick g)) rfl dX3_pick_0 (Or.inr rfl)) rfl
theorem eX3_pick_1 : WP (MX3_pick g) Q (1, [l0, some (.int a), l2, l3], st, w, k, n) = WP (MX3_pick g) Q (2, [l0, some (.int a), l2, l3], .int a :: st, w, k, n) := Eq.trans (WP_at (M := (MX3_pick g)) rfl dX3_pick_1 (Or.inr rfl)) rfl
theorem eX3_pick_2 : WP (MX3_pick g) Q (2, [l0, l1, l2, l3], st, w, k, n) = WP (MX3_pick g) Q (3, [l0, l1, l2, l3], .int 0 :: st, w, k, n) := iconst_e rfl dX3_pick_2 (by decide)
theorem eX3_pick_3 : WP (MX3_pick g) Q (3, [some (.ref p), l1, l2, l3], st, w, k, n) = WP (MX3_pick g) Q (4, [some (.ref p), l1, l2, l3], .ref p :: st, w, k, n) := Eq.trans (WP_at (M := (MX3_pick g)) rfl dX3_pick_3 (Or.inr rfl)) rfl
theorem eX3_pick_3N : WP (MX3_pick g) Q (3, [some .null, l1, l2, l3], st, w, k, n) = WP (MX3_pick g) Q (4, [some .null, l1, l2, l3], .null :: st, w, k, n) := Eq.trans (WP_at (M := (MX3_pick g)) rfl dX3_pick_3 (Or.inr rfl)) rfl
theorem eX3_pick_4 : WP (MX3_pick g) Q (4, [l0, l1, l2, l3], .ref p :: st, w, k, n) = go (rd g w p) 7 fun fs => ∃ v, fs[3]? = some v ∧ WP (MX3_pick g) Q (7, [l0, l1, l2, l3], v :: st, w, k, n) := get_e rfl dX3_pick_4 rfl
theorem eX3_pick_7  : WP (MX3_pick g) Q (7, [l0, l1, l2, l3], .ref p :: st, w, k, n) = (go (rd g w p) 3 (fun _ => True) ∧ wt st ≤ 8 ∧ k + 0 ≤ 0 ∧ n + 0 ≤ 0 ∧ WP (MJx4a65c_size_8abf5 g) (kx (fun v w' => WP (MX3_pick g) Q (10, [l0, l1, l2, l3], v.toList ++ st, w', k + 0, n + 0)) (fun E w' => Q (.inr E) w')) (0, [some (.ref p)], [], w, 0, 0)) := csV (M := (MX3_pick g)) (mc := (fun _ _ => 0)) (ms := (fun _ _ => 0)) (As := []) (rest := st) (MJx4a65c_size_8abf5 g) rfl rfl dX3_pick_7 (by exact fun h => nomatch (show (none : Option Nat) = some 11 from h)) (by exact fun h => nomatch (show (none : Option Nat) = some 15 from h)) rfl rfl (by decide) (Nat.le_of_ble_eq_true rfl) (Nat.le_of_ble_eq_true rfl) rfl
theorem eX3_pick_10 : WP (MX3_pick g) Q (10, [l0, l1, l2, l3], st, w, k, n) = WP (MX3_pick g) Q (11, [l0, l1, l2, l3], .int 1 :: st, w, k, n) := iconst_e rfl dX3_pick_10 (by decide)
theorem eX3_pick_11 : WP (MX3_pick g) Q (11, [l0, l1, l2, l3], .int b :: .int a :: st, w, k, n) = WP (MX3_pick g) Q (12, [l0, l1, l2, l3], .int (a - b) :: st, w, k, n) := Eq.trans (WP_at (M := (MX3_pick g)) rfl dX3_pick_11 (Or.inr rfl)) rfl
theorem eX3_pick_12 {z0 : Int32} {z1 : Int32} {z2 : Int32} : WP (MX3_pick g) Q (12, [l0, l1, l2, l3], .int z2 :: .int z1 :: .int z0 :: st, w, k, n) = (wt st ≤ 8 ∧ k + 0 ≤ 0 ∧ n + 0 ≤ 0 ∧ WP (MX3_isIn g) (kx (fun v w' => WP (MX3_pick g) Q (15, [l0, l1, l2, l3], v.toList ++ st, w', k + 0, n + 0)) (fun E w' => Q (.inr E) w')) (0, [some (.int z0), some (.int z1), some (.int z2)], [], w, 0, 0)) := csS (M := (MX3_pick g)) (mc := (fun _ _ => 0)) (ms := (fun _ _ => 0)) (As := [.int z0, .int z1, .int z2]) (rest := st) (MX3_isIn g) rfl rfl dX3_pick_12 (Nat.ne_of_beq_eq_false rfl) (by exact fun h => nomatch (show (none : Option Nat) = some 12 from h)) (by exact fun h => nomatch (show (none : Option Nat) = some 13 from h)) (by exact fun h => nomatch (show (none : Option Nat) = some 14 from h)) rfl rfl (by decide) (Nat.le_of_ble_eq_true rfl) (Nat.le_of_ble_eq_true rfl) rfl
theorem eX3_pick_15 : WP (MX3_pick g) Q (15, [l0, l1, l2, l3], .int a :: st, w, k, n) = if a = 0 then WP (MX3_pick g) Q (25, [l0, l1, l2, l3], st, w, k, n) else WP (MX3_pick g) Q (18, [l0, l1, l2, l3], st, w, k, n) := ifc_e (a = 0) rfl dX3_pick_15 rfl (by decide)
theorem eX3_pick_18 : WP (MX3_pick g) Q (18, [l0, l1, some (.int a), l3], st, w, k, n) = WP (MX3_pick g) Q (19, [l0, l1, some (.int a), l3], .int a :: st, w, k, n) := Eq.trans (WP_at (M := (MX3_pick g)) rfl dX3_pick_18 (Or.inr rfl)) rfl
theorem eX3_pick_19 {z0 : Int32} : WP (MX3_pick g) Q (19, [l0, l1, l2, l3], .int z0 :: st, w, k, n) = (wt st ≤ 8 ∧ k + 0 ≤ 0 ∧ n + 0 ≤ 0 ∧ WP (MX3_isNoCard g) (kx (fun v w' => WP (MX3_pick g) Q (22, [l0, l1, l2, l3], v.toList ++ st, w', k + 0, n + 0)) (fun E w' => Q (.inr E) w')) (0, [some (.int z0)], [], w, 0, 0)) := csS (M := (MX3_pick g)) (mc := (fun _ _ => 0)) (ms := (fun _ _ => 0)) (As := [.int z0]) (rest := st) (MX3_isNoCard g) rfl rfl dX3_pick_19 (Nat.ne_of_beq_eq_false rfl) (by exact fun h => nomatch (show (none : Option Nat) = some 12 from h)) (by exact fun h => nomatch (show (none : Option Nat) = some 13 from h)) (by exact fun h => nomatch (show (none : Option Nat) = some 14 from h)) rfl rfl (by decide) (Nat.le_of_ble_eq_true rfl) (Nat.le_of_ble_eq_true rfl) rfl
theorem eX3_pick_22 : WP (MX3_pick g) Q (22, [l0, l1, l2, l3], .int a :: st, w, k, n) = if a = 0 then WP (MX3_pick g) Q (29, [l0, l1, l2, l3], st, w, k, n) else WP (MX3_pick g) Q (25, [l0, l1, l2, l3], st, w, k, n) := ifc_e (a = 0) rfl dX3_pick_22 rfl (by decide)
theorem eX3_pick_25 : WP (MX3_pick g) Q (25, [l0, l1, l2, l3], st, w, k, n) = WP (MX3_pick g) Q (26, [l0, l1, l2, l3], .int 1 :: st, w, k, n) := iconst_e rfl dX3_pick_25 (by decide)
theorem eX3_pick_26 : WP (MX3_pick g) Q (26, [l0, l1, l2, l3], st, w, k, n) = WP (MX3_pick g) Q (30, [l0, l1, l2, l3], st, w, k, n) := goto_e rfl dX3_pick_26 (by decide)
theorem eX3_pick_29 : WP (MX3_pick g) Q (29, [l0, l1, l2, l3], st, w, k, n) = WP (MX3_pick g) Q (30, [l0, l1, l2, l3], .int 0 :: st, w, k, n) := iconst_e rfl dX3_pick_29 (by decide)
theorem eX3_pick_30 : WP (MX3_pick g) Q (30, [l0, l1, l2, l3], st, w, k, n) = WP (MX3_pick g) Q (31, [l0, l1, l2, l3], .int 1 :: st, w, k, n) := iconst_e rfl dX3_pick_30 (by decide)
theorem eX3_pick_31 {z0 : Int32} {z1 : Int32} : WP (MX3_pick g) Q (31, [l0, l1, l2, l3], .int z1 :: .int z0 :: .ref p :: st, w, k, n) = (go (rd g w p) 7 (fun _ => True) ∧ wt st ≤ 8 ∧ k + 0 ≤ 0 ∧ n + 0 ≤ 0 ∧ WP (MX3_start g) (kx (fun v w' => WP (MX3_pick g) Q (34, [l0, l1, l2, l3], v.toList ++ st, w', k + 0, n + 0)) (fun E w' => Q (.inr E) w')) (0, [some (.ref p), some (.int z0), some (.int z1)], [], w, 0, 0)) := csV (M := (MX3_pick g)) (mc := (fun _ _ => 0)) (ms := (fun _ _ => 0)) (As := [.int z0, .int z1]) (rest := st) (MX3_start g) rfl rfl dX3_pick_31 (by exact fun h => nomatch (show (none : Option Nat) = some 11 from h)) (by exact fun h => nomatch (show (none : Option Nat) = some 15 from h)) rfl rfl (by decide) (Nat.le_of_ble_eq_true rfl) (Nat.le_of_ble_eq_true rfl) rfl
theorem eX3_pick_34 : WP (MX3_pick g) Q (34, [l0, l1, l2, l3], .int a :: st, w, k, n) = if a = 0 then WP (MX3_pick g) Q (39, [l0, l1, l2, l3], st, w, k, n) else WP (MX3_pick g) Q (37, [l0, l1, l2, l3], st, w, k, n) := ifc_e (a = 0) rfl dX3_pick_34 rfl (by decide)
theorem eX3_pick_37 : WP (MX3_pick g) Q (37, [l0, l1, l2, l3], st, w, k, n) = WP (MX3_pick g) Q (38, [l0, l1, l2, l3], .int 0 :: st, w, k, n) := iconst_e rfl dX3_pick_37 (by decide)
theorem eX3_pick_38 : WP (MX3_pick g) Q (38, [l0, l1, l2, l3], [.int a], w, k, n) = (k ≤ 0 ∧ n ≤ 0 ∧ Q (.inl (some (.int a))) w) := iretI_e rfl dX3_pick_38 rfl
theorem eX3_pick_39 : WP (MX3_pick g) Q (39, [some (.ref p), l1, l2, l3], st, w, k, n) = WP (MX3_pick g) Q (40, [some (.ref p), l1, l2, l3], .ref p :: st, w, k, n) := Eq.trans (WP_at (M := (MX3_pick g)) rfl dX3_pick_39 (Or.inr rfl)) rfl
theorem eX3_pick_39N : WP (MX3_pick g) Q (39, [some .null, l1, l2, l3], st, w, k, n) = WP (MX3_pick g) Q (40, [some .null, l1, l2, l3], .null :: st, w, k, n) := Eq.trans (WP_at (M := (MX3_pick g)) rfl dX3_pick_39 (Or.inr rfl)) rfl
theorem eX3_pick_40 : WP (MX3_pick g) Q (40, [l0, l1, some (.int a), l3], st, w, k, n) = WP (MX3_pick g) Q (41, [l0, l1, some (.int a), l3], .int a :: st, w, k, n) := Eq.trans (WP_at (M := (MX3_pick g)) rfl dX3_pick_40 (Or.inr rfl)) rfl
theorem eX3_pick_41 {z0 : Int32} : WP (MX3_pick g) Q (41, [l0, l1, l2, l3], .int z0 :: .ref p :: st, w, k, n) = (go (rd g w p) 7 (fun _ => True) ∧ wt st ≤ 8 ∧ k + 0 ≤ 0 ∧ n + 0 ≤ 0 ∧ WP (MX3_isBare g) (kx (fun v w' => WP (MX3_pick g) Q (44, [l0, l1, l2, l3], v.toList ++ st, w', k + 0, n + 0)) (fun E w' => Q (.inr E) w')) (0, [some (.ref p), some (.int z0)], [], w, 0, 0)) := csV (M := (MX3_pick g)) (mc := (fun _ _ => 0)) (ms := (fun _ _ => 0)) (As := [.int z0]) (rest := st) (MX3_isBare g) rfl rfl dX3_pick_41 (by exact fun h => nomatch (show (none : Option Nat) = some 11 from h)) (by exact fun h => nomatch (show (none : Option Nat) = some 15 from h)) rfl rfl (by decide) (Nat.le_of_ble_eq_true rfl) (Nat.le_of_ble_eq_true rfl) rfl
theorem eX3_pick_44 : WP (MX3_pick g) Q (44, [l0, l1, l2, l3], .int a :: st, w, k, n) = if a = 0 then WP (MX3_pick g) Q (47, [l0, l1, l2, l3], st, w, k, n) else WP (MX3_pick g) Q (51, [l0, l1, l2, l3], st, w, k, n) := ifcn_e (a = 0) rfl dX3_pick_44 rfl (by decide)
theorem eX3_pick_47 : WP (MX3_pick g) Q (47, [l0, l1, l2, l3], st, w, k, n) = WP (MX3_pick g) Q (48, [l0, l1, l2, l3], .int 1 :: st, w, k, n) := iconst_e rfl dX3_pick_47 (by decide)
theorem eX3_pick_48 : WP (MX3_pick g) Q (48, [l0, l1, l2, l3], st, w, k, n) = WP (MX3_pick g) Q (52, [l0, l1, l2, l3], st, w, k, n) := goto_e rfl dX3_pick_48 (by decide)
theorem eX3_pick_51 : WP (MX3_pick g) Q (51, [l0, l1, l2, l3], st, w, k, n) = WP (MX3_pick g) Q (52, [l0, l1, l2, l3], .int 0 :: st, w, k, n) := iconst_e rfl dX3_pick_51 (by decide)
theorem eX3_pick_52 {z0 : Int32} : WP (MX3_pick g) Q (52, [l0, l1, l2, l3], .int z0 :: st, w, k, n) = (wt st ≤ 8 ∧ k + 0 ≤ 0 ∧ n + 0 ≤ 0 ∧ WP (MX3_one g) (kx (fun v w' => WP (MX3_pick g) Q (55, [l0, l1, l2, l3], v.toList ++ st, w', k + 0, n + 0)) (fun E w' => Q (.inr E) w')) (0, [some (.int z0)], [], w, 0, 0)) := csS (M := (MX3_pick g)) (mc := (fun _ _ => 0)) (ms := (fun _ _ => 0)) (As := [.int z0]) (rest := st) (MX3_one g) rfl rfl dX3_pick_52 (Nat.ne_of_beq_eq_false rfl) (by exact fun h => nomatch (show (none : Option Nat) = some 12 from h)) (by exact fun h => nomatch (show (none : Option Nat) = some 13 from h)) (by exact fun h => nomatch (show (none : Option Nat) = some 14 from h)) rfl rfl (by decide) (Nat.le_of_ble_eq_true rfl) (Nat.le_of_ble_eq_true rfl) rfl
theorem eX3_pick_55 : WP (MX3_pick g) Q (55, [l0, l1, l2, l3], .int a :: st, w, k, n) = WP (MX3_pick g) Q (56, [l0, l1, nl l2, some (.int a)], st, w, k, n) := by rw [WP_at (M := (MX3_pick g)) rfl dX3_pick_55 (Or.inr rfl)]; exact and_t (Nat.le_of_ble_eq_true rfl)
theorem eX3_pick_56 : WP (MX3_pick g) Q (56, [some (.ref p), l1, l2, l3], st, w, k, n) = WP (MX3_pick g) Q (57, [some (.ref p), l1, l2, l3], .ref p :: st, w, k, n) := Eq.trans (WP_at (M := (MX3_pick g)) rfl dX3_pick_56 (Or.inr rfl)) rfl
theorem eX3_pick_56N : WP (MX3_pick g) Q (56, [some .null, l1, l2, l3], st, w, k, n) = WP (MX3_pick g) Q (57, [some .null, l1, l2, l3], .null :: st, w, k, n) := Eq.trans (WP_at (M := (MX3_pick g)) rfl dX3_pick_56 (Or.inr rfl)) rfl
theorem eX3_pick_57 : WP (MX3_pick g) Q (57, [l0, l1, l2, l3], .ref p :: st, w, k, n) = go (rd g w p) 7 fun fs => ∃ v, fs[2]? = some v ∧ WP (MX3_pick g) Q (60, [l0, l1, l2, l3], v :: st, w, k, n) := get_e rfl dX3_pick_57 rfl
theorem eX3_pick_60 : WP (MX3_pick g) Q (60, [l0, l1, some (.int a), l3], st, w, k, n) = WP (MX3_pick g) Q (61, [l0, l1, some (.int a), l3], .int a :: st, w, k, n) := Eq.trans (WP_at (M := (MX3_pick g)) rfl dX3_pick_60 (Or.inr rfl)) rfl
theorem eX3_pick_61 : WP (MX3_pick g) Q (61, [some (.ref p), l1, l2, l3], st, w, k, n) = WP (MX3_pick g) Q (62, [some (.ref p), l1, l2, l3], .ref p :: st, w, k, n) := Eq.trans (WP_at (M := (MX3_pick g)) rfl dX3_pick_61 (Or.inr rfl)) rfl
theorem eX3_pick_61N : WP (MX3_pick g) Q (61, [some .null, l1, l2, l3], st, w, k, n) = WP (MX3_pick g) Q (62, [some .null, l1, l2, l3], .null :: st, w, k, n) := Eq.trans (WP_at (M := (MX3_pick g)) rfl dX3_pick_61 (Or.inr rfl)) rfl
theorem eX3_pick_62 : WP (MX3_pick g) Q (62, [l0, l1, l2, l3], .ref p :: st, w, k, n) = go (rd g w p) 7 fun fs => ∃ v, fs[3]? = some v ∧ WP (MX3_pick g) Q (65, [l0, l1, l2, l3], v :: st, w, k, n) := get_e rfl dX3_pick_62 rfl
theorem eX3_pick_65 : WP (MX3_pick g) Q (65, [l0, some (.int a), l2, l3], st, w, k, n) = WP (MX3_pick g) Q (66, [l0, some (.int a), l2, l3], .int a :: st, w, k, n) := Eq.trans (WP_at (M := (MX3_pick g)) rfl dX3_pick_65 (Or.inr rfl)) rfl
theorem eX3_pick_66 {z0 : Int32} : WP (MX3_pick g) Q (66, [l0, l1, l2, l3], .int z0 :: .ref p :: st, w, k, n) = (go (rd g w p) 3 (fun _ => True) ∧ wt st ≤ 8 ∧ k + 0 ≤ 0 ∧ n + 0 ≤ 0 ∧ WP (MJx4a65c_get_915e3 g) (kx (fun v w' => WP (MX3_pick g) Q (69, [l0, l1, l2, l3], v.toList ++ st, w', k + 0, n + 0)) (fun E w' => Q (.inr E) w')) (0, [some (.ref p), some (.int z0)], [], w, 0, 0)) := csV (M := (MX3_pick g)) (mc := (fun _ _ => 0)) (ms := (fun _ _ => 0)) (As := [.int z0]) (rest := st) (MJx4a65c_get_915e3 g) rfl rfl dX3_pick_66 (by exact fun h => nomatch (show (none : Option Nat) = some 11 from h)) (by exact fun h => nomatch (show (none : Option Nat) = some 15 from h)) rfl rfl (by decide) (Nat.le_of_ble_eq_true rfl) (Nat.le_of_ble_eq_true rfl) rfl
theorem eX3_pick_69N : WP (MX3_pick g) Q (69, [l0, l1, l2, l3], .null :: st, w, k, n) = WP (MX3_pick g) Q (72, [l0, l1, l2, l3], .null :: st, w, k, n) := castN_e rfl dX3_pick_69
theorem eX3_pick_69R : WP (MX3_pick g) Q (69, [l0, l1, l2, l3], .ref p :: st, w, k, n) = ((∃ x, w p = some (.inl (0, x))) ∧ WP (MX3_pick g) Q (72, [l0, l1, l2, l3], .ref p :: st, w, k, n)) := castR_e rfl dX3_pick_69 rfl
theorem eX3_pick_72R {z0 : Int32} {z1 : Nat} : WP (MX3_pick g) Q (72, [l0, l1, l2, l3], .ref z1 :: .int z0 :: .ref p :: st, w, k, n) = (go (rd g w p) 3 (fun _ => True) ∧ wt st ≤ 8 ∧ k + 0 ≤ 0 ∧ n + 0 ≤ 0 ∧ WP (MJx4a65c_set_bcc79 g) (kx (fun v w' => WP (MX3_pick g) Q (75, [l0, l1, l2, l3], v.toList ++ st, w', k + 0, n + 0)) (fun E w' => Q (.inr E) w')) (0, [some (.ref p), some (.int z0), some (.ref z1), none], [], w, 0, 0)) := csV (M := (MX3_pick g)) (mc := (fun _ _ => 0)) (ms := (fun _ _ => 0)) (As := [.int z0, .ref z1]) (rest := st) (MJx4a65c_set_bcc79 g) rfl rfl dX3_pick_72 (by exact fun h => nomatch (show (none : Option Nat) = some 11 from h)) (by exact fun h => nomatch (show (none : Option Nat) = some 15 from h)) rfl rfl (by decide) (Nat.le_of_ble_eq_true rfl) (Nat.le_of_ble_eq_true rfl) rfl
theorem eX3_pick_72N {z0 : Int32} : WP (MX3_pick g) Q (72, [l0, l1, l2, l3], .null :: .int z0 :: .ref p :: st, w, k, n) = (go (rd g w p) 3 (fun _ => True) ∧ wt st ≤ 8 ∧ k + 0 ≤ 0 ∧ n + 0 ≤ 0 ∧ WP (MJx4a65c_set_bcc79 g) (kx (fun v w' => WP (MX3_pick g) Q (75, [l0, l1, l2, l3], v.toList ++ st, w', k + 0, n + 0)) (fun E w' => Q (.inr E) w')) (0, [some (.ref p), some (.int z0), some .null, none], [], w, 0, 0)) := csV (M := (MX3_pick g)) (mc := (fun _ _ => 0)) (ms := (fun _ _ => 0)) (As := [.int z0, .null]) (rest := st) (MJx4a65c_set_bcc79 g) rfl rfl dX3_pick_72 (by exact fun h => nomatch (show (none : Option Nat) = some 11 from h)) (by exact fun h => nomatch (show (none : Option Nat) = some 15 from h)) rfl rfl (by decide) (Nat.le_of_ble_eq_true rfl) (Nat.le_of_ble_eq_true rfl) rfl
theorem eX3_pick_75 : WP (MX3_pick g) Q (75, [l0, l1, l2, l3], .int a :: st, w, k, n) = WP (MX3_pick g) Q (76, [l0, l1, l2, l3], st, w, k, n) := by rw [WP_at (M := (MX3_pick g)) rfl dX3_pick_75 (Or.inr rfl)]; exact and_t rfl
theorem eX3_pick_75R : WP (MX3_pick g) Q (75, [l0, l1, l2, l3], .ref p :: st, w, k, n) = WP (MX3_pick g) Q (76, [l0, l1, l2, l3], st, w, k, n) := by rw [WP_at (M := (MX3_pick g)) rfl dX3_pick_75 (Or.inr rfl)]; exact and_t rfl
theorem eX3_pick_75N : WP (MX3_pick g) Q (75, [l0, l1, l2, l3], .null :: st, w, k, n) = WP (MX3_pick g) Q (76, [l0, l1, l2, l3], st, w, k, n) := by rw [WP_at (M := (MX3_pick g)) rfl dX3_pick_75 (Or.inr rfl)]; exact and_t rfl
theorem eX3_pick_76 : WP (MX3_pick g) Q (76, [l0, l1, l2, some (.int a)], st, w, k, n) = WP (MX3_pick g) Q (77, [l0, l1, l2, some (.int a)], .int a :: st, w, k, n) := Eq.trans (WP_at (M := (MX3_pick g)) rfl dX3_pick_76 (Or.inr rfl)) rfl
set_option maxRecDepth 20000 in
theorem eX3_pick_77 : WP (MX3_pick g) Q (77, [l0, l1, l2, l3], [.int a], w, k, n) = (k ≤ 0 ∧ n ≤ 0 ∧ Q (.inl (some (.int a))) w) := iretI_e rfl dX3_pick_77 rfl
end
theorem vMX3_pick {l : Launch} (hl : l.stackTraces = false) (G : GT) : vM l G (MX3_pick (gg G)) := ⟨fun i c j h => lookup_all (l := (MX3_pick (gg G)).fld) (P := fun i e => vFld RX3 i e.1 e.2) (all_c (vF_RX3_20) (all_c (vF_RX3_16) (all_n))) i (c, j) h, fun i c fs h => lookup_all (l := (MX3_pick (gg G)).new) (P := fun i e => vNew RX3 i e.1 e.2) (all_n) i (c, fs) h, lookup_all (l := (MX3_pick (gg G)).anew) (P := fun i e => vANew RX3 i e) (all_n), lookup_all (l := (MX3_pick (gg G)).lng) (P := fun i e => Jvm.Cond.constantLong RX3 i e ∈ WS) (all_n), lookup_all (l := (MX3_pick (gg G)).thr) (P := fun i e => vThr RX3 cX3_pick i e) (all_n), fun h => absurd rfl h, lookup_all (l := (MX3_pick (gg G)).cal) (P := fun i e => vCal l G RX3 i e) (all_c (⟨cJx4a65c_size_8abf5, 1, some .int, fun y hy => by subst hy; exact ⟨by decide, ⟨_, wk_1523, okJx4a65c_size_8abf5 hl, Or.inl ⟨Nat.ne_of_beq_eq_false rfl, rfl⟩⟩, wk_63, ⟨(by decide : yJx4a65c_size_8abf5.cls ≠ "java/lang/invoke/MethodHandle"), (by decide : yJx4a65c_size_8abf5.cls ≠ "java/lang/invoke/VarHandle")⟩, ⟨(by decide +kernel : (parseMethodDescriptor yJx4a65c_size_8abf5.desc).map (fun d => d.parameters.length + 1) = some 1), wk_1520, wk_1521, wk_1522, (RJx4a65c, TJx4a65c, 3), rfl, rfl⟩⟩⟩) (all_c (⟨cX3_isIn, 3, some .boolean, fun y hy => by subst hy; exact ⟨by decide, ⟨_, wk_1227, okX3_isIn hl, Or.inl ⟨Nat.ne_of_beq_eq_false rfl, rfl⟩⟩, wk_60, ⟨(by decide : yX3_isIn.cls ≠ "java/lang/invoke/MethodHandle"), (by decide : yX3_isIn.cls ≠ "java/lang/invoke/VarHandle")⟩, ⟨(by decide +kernel : (parseMethodDescriptor yX3_isIn.desc).map (fun d => d.parameters.length) = some 3), wk_1225, wk_1226⟩⟩⟩) (all_c (⟨cX3_isNoCard, 1, some .boolean, fun y hy => by subst hy; exact ⟨by decide, ⟨_, wk_1320, okX3_isNoCard hl, Or.inl ⟨Nat.ne_of_beq_eq_false rfl, rfl⟩⟩, wk_60, ⟨(by decide : yX3_isNoCard.cls ≠ "java/lang/invoke/MethodHandle"), (by decide : yX3_isNoCard.cls ≠ "java/lang/invoke/VarHandle")⟩, ⟨(by decide +kernel : (parseMethodDescriptor yX3_isNoCard.desc).map (fun d => d.parameters.length) = some 1), wk_1318, wk_1319⟩⟩⟩) (all_c (⟨cX3_start, 3, some .boolean, fun y hy => by subst hy; exact ⟨by decide, ⟨_, wk_1231, okX3_start hl, Or.inl ⟨Nat.ne_of_beq_eq_false rfl, rfl⟩⟩, wk_60, ⟨(by decide : yX3_start.cls ≠ "java/lang/invoke/MethodHandle"), (by decide : yX3_start.cls ≠ "java/lang/invoke/VarHandle")⟩, ⟨(by decide +kernel : (parseMethodDescriptor yX3_start.desc).map (fun d => d.parameters.length + 1) = some 3), wk_1228, wk_1230, wk_37, (RX3, TX3, 7), rfl, rfl⟩⟩⟩) (all_c (⟨cX3_isBare, 2, some .boolean, fun y hy => by subst hy; exact ⟨by decide, ⟨_, wk_1375, okX3_isBare hl, Or.inl ⟨Nat.ne_of_beq_eq_false rfl, rfl⟩⟩, wk_60, ⟨(by decide : yX3_isBare.cls ≠ "java/lang/invoke/MethodHandle"), (by decide : yX3_isBare.cls ≠ "java/lang/invoke/VarHandle")⟩, ⟨(by decide +kernel : (parseMethodDescriptor yX3_isBare.desc).map (fun d => d.parameters.length + 1) = some 2), wk_1372, wk_1374, wk_43, (RX3, TX3, 7), rfl, rfl⟩⟩⟩) (all_c (⟨cX3_one, 1, some .int, fun y hy => by subst hy; exact ⟨by decide, ⟨_, wk_1313, okX3_one hl, Or.inl ⟨Nat.ne_of_beq_eq_false rfl, rfl⟩⟩, wk_60, ⟨(by decide : yX3_one.cls ≠ "java/lang/invoke/MethodHandle"), (by decide : yX3_one.cls ≠ "java/lang/invoke/VarHandle")⟩, ⟨(by decide +kernel : (parseMethodDescriptor yX3_one.desc).map (fun d => d.parameters.length) = some 1), wk_1311, wk_1312⟩⟩⟩) (all_c (⟨cJx4a65c_get_915e3, 2, some (.object "java/lang/Object"), fun y hy => by subst hy; exact ⟨by decide, ⟨_, wk_1379, okJx4a65c_get_915e3 hl, Or.inl ⟨Nat.ne_of_beq_eq_false rfl, rfl⟩⟩, wk_63, ⟨(by decide : yJx4a65c_get_915e3.cls ≠ "java/lang/invoke/MethodHandle"), (by decide : yJx4a65c_get_915e3.cls ≠ "java/lang/invoke/VarHandle")⟩, ⟨(by decide +kernel : (parseMethodDescriptor yJx4a65c_get_915e3.desc).map (fun d => d.parameters.length + 1) = some 2), wk_1376, wk_1377, wk_1378, (RJx4a65c, TJx4a65c, 3), rfl, rfl⟩⟩⟩) (all_c (⟨cJx4a65c_set_bcc79, 4, some (.object "java/lang/Object"), fun y hy => by subst hy; exact ⟨by decide, ⟨_, wk_1335, okJx4a65c_set_bcc79 hl, Or.inl ⟨Nat.ne_of_beq_eq_false rfl, rfl⟩⟩, wk_63, ⟨(by decide : yJx4a65c_set_bcc79.cls ≠ "java/lang/invoke/MethodHandle"), (by decide : yJx4a65c_set_bcc79.cls ≠ "java/lang/invoke/VarHandle")⟩, ⟨(by decide +kernel : (parseMethodDescriptor yJx4a65c_set_bcc79.desc).map (fun d => d.parameters.length + 1) = some 3), wk_1332, wk_1333, wk_1334, (RJx4a65c, TJx4a65c, 3), rfl, rfl⟩⟩⟩) (all_n))))))))), lookup_all (l := (MX3_pick (gg G)).stt) (P := fun i e => vStt G RX3 i e) (all_n), lookup_all (l := (MX3_pick (gg G)).cst) (P := fun i e => vCst RX3 i e) (all_c (⟨.long, rfl, (fun C h => by cases h), wk_1380⟩) (all_n)), fun h => absurd rfl h, rfl, all_n⟩
theorem okX3_pick {l : Launch} (hl : l.stackTraces = false) {G : GT} : ∀ (args : List Value) (w : Hw) (S : Ot → Hw → Prop), spOf (MX3_pick (gg G)) args w S → CX l G yX3_pick (.code yX3_pick cX3_pick 4 (some .int)) 5 0 0 args w S := CX_sp (M := MX3_pick (gg G)) (y := yX3_pick) hl (by decide) rfl (vMX3_pick hl G) (fun h => by cases h) rfl
/-! RangecardModel.turn()I -/
theorem dX3_turn_0 : decode cX3_turn 0 = .ok (.aload_n 0, 1) := by decide +kernel
theorem dX3_turn_1 : decode cX3_turn 1 = .ok (.iconst 0, 1) := by decide +kernel
theorem dX3_turn_2 : decode cX3_turn 2 = .ok (.putfield 27, 3) := by decide +kernel
theorem dX3_turn_5 : decode cX3_turn 5 = .ok (.new 13, 3) := by decide +kernel
theorem dX3_turn_8 : decode cX3_turn 8 = .ok (.dup, 1) := by decide +kernel
theorem dX3_turn_9 : decode cX3_turn 9 = .ok (.invokespecial 15, 3) := by decide +kernel
theorem dX3_turn_12 : decode cX3_turn 12 = .ok (.astore_n 1, 1) := by decide +kernel
theorem dX3_turn_13 : decode cX3_turn 13 = .ok (.aload_n 0, 1) := by decide +kernel
theorem dX3_turn_14 : decode cX3_turn 14 = .ok (.getfield 20, 3) := by decide +kernel
theorem dX3_turn_17 : decode cX3_turn 17 = .ok (.invokevirtual 181, 3) := by decide +kernel
theorem dX3_turn_20 : decode cX3_turn 20 = .ok (.astore_n 2, 1) := by decide +kernel
theorem dX3_turn_21 : decode cX3_turn 21 = .ok (.aload_n 2, 1) := by decide +kernel
theorem dX3_turn_22 : decode cX3_turn 22 = .ok (.invokeinterface 185 1, 5) := by decide +kernel
theorem dX3_turn_27 : decode cX3_turn 27 = .ok (.ifCond .eq 22, 3) := by decide +kernel
theorem dX3_turn_30 : decode cX3_turn 30 = .ok (.aload_n 2, 1) := by decide +kernel
theorem dX3_turn_31 : decode cX3_turn 31 = .ok (.invokeinterface 191 1, 5) := by decide +kernel
theorem dX3_turn_36 : decode cX3_turn 36 = .ok (.checkcast 125, 3) := by decide +kernel
theorem dX3_turn_39 : decode cX3_turn 39 = .ok (.astore_n 3, 1) := by decide +kernel
theorem dX3_turn_40 : decode cX3_turn 40 = .ok (.aload_n 1, 1) := by decide +kernel
theorem dX3_turn_41 : decode cX3_turn 41 = .ok (.iconst 0, 1) := by decide +kernel
theorem dX3_turn_42 : decode cX3_turn 42 = .ok (.aload_n 3, 1) := by decide +kernel
theorem dX3_turn_43 : decode cX3_turn 43 = .ok (.invokevirtual 201, 3) := by decide +kernel
theorem dX3_turn_46 : decode cX3_turn 46 = .ok (.goto (-25), 3) := by decide +kernel
theorem dX3_turn_49 : decode cX3_turn 49 = .ok (.aload_n 0, 1) := by decide +kernel
theorem dX3_turn_50 : decode cX3_turn 50 = .ok (.aload_n 1, 1) := by decide +kernel
theorem dX3_turn_51 : decode cX3_turn 51 = .ok (.putfield 20, 3) := by decide +kernel
theorem dX3_turn_54 : decode cX3_turn 54 = .ok (.aload_n 0, 1) := by decide +kernel
theorem dX3_turn_55 : decode cX3_turn 55 = .ok (.getfield 20, 3) := by decide +kernel
theorem dX3_turn_58 : decode cX3_turn 58 = .ok (.invokevirtual 174, 3) := by decide +kernel
theorem dX3_turn_61 : decode cX3_turn 61 = .ok (.ireturn, 1) := by decide +kernel
def MX3_turn (g : RO) : MT := ((RX3, cX3_turn, 4, 6, 14, 187, false, some .int), [(27, 7, 0), (20, 7, 3)], [(13, 3, [.int 0, .null, .int 0])], [], [], [], 0, [(15, 4, 1, 3, 3, (fun _ _ => 0), (fun _ _ => 0), yJx4a65c_init_da8c8, spOf (MJx4a65c_init_da8c8 g)), (181, 2, 1, 3, 2, (fun _ _ => 1), (fun _ _ => 4), yJx4a65c_iterator_32c93, spOf (MJx4a65c_iterator_32c93 g)), (185, 6, 1, 2, 1, (fun _ _ => 0), (fun _ _ => 0), yJx35411_hasNext_aae02, spOf (MJx35411_hasNext_aae02 g)), (191, 6, 1, 2, 2, (fun _ _ => 0), (fun _ _ => 0), yJx35411_next_0502b, spOf (MJx35411_next_0502b g)), (201, 2, 3, 3, 5, (fun _ _ => 1), (fun _ _ => 15), yJx4a65c_add_7a177, spOf (MJx4a65c_add_7a177 g)), (174, 2, 1, 3, 1, (fun _ _ => 0), (fun _ _ => 0), yJx4a65c_size_8abf5, spOf (MJx4a65c_size_8abf5 g))], [], [(125, 0)], 0, [], [], g)
section
variable {g : RO} {Q : Ot → Hw → Prop} {st : List Value} {w : Hw} {k n p q : Nat} {a b : Int32} {x y : Int64} {u v : Value} {l0 l1 l2 l3 : Option Value}
theorem eX3_turn_0 : WP (MX3_turn g) Q (0, [some (.ref p), l1, l2, l3], st, w, k, n) = WP (MX3_turn g) Q (1, [some (.ref p), l1, l2, l3], .ref p :: st, w, k, n) := Eq.trans (WP_at (M := (MX3_turn g)) rfl dX3_turn_0 (Or.inr rfl)) rfl
theorem eX3_turn_0N : WP (MX3_turn g) Q (0, [some .null, l1, l2, l3], st, w, k, n) = WP (MX3_turn g) Q (1, [some .null, l1, l2, l3], .null :: st, w, k, n) := Eq.trans (WP_at (M := (MX3_turn g)) rfl dX3_turn_0 (Or.inr rfl)) rfl
theorem eX3_turn_1 : WP (MX3_turn g) Q (1, [l0, l1, l2, l3], st, w, k, n) = WP (MX3_turn g) Q (2, [l0, l1, l2, l3], .int 0 :: st, w, k, n) := iconst_e rfl dX3_turn_1 (by decide)
theorem eX3_turn_2 : WP (MX3_turn g) Q (2, [l0, l1, l2, l3], v :: .ref p :: st, w, k, n) = go (w p) 7 fun fs => 0 < fs.length ∧ (narrow (.int) v = v ∧ fits (.int) v = true) ∧ WP (MX3_turn g) Q (5, [l0, l1, l2, l3], st, upw w p (.inr (7, fs.set 0 v)), k, n) := put_e (q := (RX3, TX3, 7)) rfl dX3_turn_2 rfl rfl (tyX3_ok 0 (by decide)) (Or.inl rfl)
theorem eX3_turn_5 : WP (MX3_turn g) Q (5, [l0, l1, l2, l3], st, w, k, n) = (k + 1 ≤ 14 ∧ n + 3 ≤ 187 ∧ ∀ q : Nat, rd g w q = none → WP (MX3_turn g) Q (8, [l0, l1, l2, l3], .ref q :: st, upw w q (.inr (3, [.int 0, .null, .int 0])), k + 1, n + 3)) := Eq.trans (new_e (M := (MX3_turn g)) (fs := [.int 0, .null, .int 0]) rfl dX3_turn_5 rfl) rfl
theorem eX3_turn_8 : WP (MX3_turn g) Q (8, [l0, l1, l2, l3], .int a :: st, w, k, n) = WP (MX3_turn g) Q (9, [l0, l1, l2, l3], .int a :: .int a :: st, w, k, n) := by rw [WP_at (M := (MX3_turn g)) rfl dX3_turn_8 (Or.inr rfl)]; exact and_t rfl
theorem eX3_turn_8R : WP (MX3_turn g) Q (8, [l0, l1, l2, l3], .ref p :: st, w, k, n) = WP (MX3_turn g) Q (9, [l0, l1, l2, l3], .ref p :: .ref p :: st, w, k, n) := by rw [WP_at (M := (MX3_turn g)) rfl dX3_turn_8 (Or.inr rfl)]; exact and_t rfl
theorem eX3_turn_9  : WP (MX3_turn g) Q (9, [l0, l1, l2, l3], .ref p :: st, w, k, n) = (wt st ≤ 8 ∧ k + 0 ≤ 14 ∧ n + 0 ≤ 187 ∧ WP (MJx4a65c_init_da8c8 g) (kx (fun v w' => WP (MX3_turn g) Q (12, [l0, l1, l2, l3], v.toList ++ st, w', k + 0, n + 0)) (fun E w' => Q (.inr E) w')) (0, [some (.ref p)], [], w, 0, 0)) := csI (M := (MX3_turn g)) (mc := (fun _ _ => 0)) (ms := (fun _ _ => 0)) (As := []) (rest := st) (MJx4a65c_init_da8c8 g) rfl rfl dX3_turn_9 (Nat.ne_of_beq_eq_false rfl) rfl rfl (Nat.le_of_ble_eq_true rfl) (Nat.le_of_ble_eq_true rfl) rfl
theorem eX3_turn_12 : WP (MX3_turn g) Q (12, [l0, l1, l2, l3], .ref p :: st, w, k, n) = WP (MX3_turn g) Q (13, [nl l0, some (.ref p), l2, l3], st, w, k, n) := by rw [WP_at (M := (MX3_turn g)) rfl dX3_turn_12 (Or.inr rfl)]; exact and_t (Nat.le_of_ble_eq_true rfl)
theorem eX3_turn_12N : WP (MX3_turn g) Q (12, [l0, l1, l2, l3], .null :: st, w, k, n) = WP (MX3_turn g) Q (13, [nl l0, some (.null), l2, l3], st, w, k, n) := by rw [WP_at (M := (MX3_turn g)) rfl dX3_turn_12 (Or.inr rfl)]; exact and_t (Nat.le_of_ble_eq_true rfl)
theorem eX3_turn_13 : WP (MX3_turn g) Q (13, [some (.ref p), l1, l2, l3], st, w, k, n) = WP (MX3_turn g) Q (14, [some (.ref p), l1, l2, l3], .ref p :: st, w, k, n) := Eq.trans (WP_at (M := (MX3_turn g)) rfl dX3_turn_13 (Or.inr rfl)) rfl
theorem eX3_turn_13N : WP (MX3_turn g) Q (13, [some .null, l1, l2, l3], st, w, k, n) = WP (MX3_turn g) Q (14, [some .null, l1, l2, l3], .null :: st, w, k, n) := Eq.trans (WP_at (M := (MX3_turn g)) rfl dX3_turn_13 (Or.inr rfl)) rfl
theorem eX3_turn_14 : WP (MX3_turn g) Q (14, [l0, l1, l2, l3], .ref p :: st, w, k, n) = go (rd g w p) 7 fun fs => ∃ v, fs[3]? = some v ∧ WP (MX3_turn g) Q (17, [l0, l1, l2, l3], v :: st, w, k, n) := get_e rfl dX3_turn_14 rfl
theorem eX3_turn_17  : WP (MX3_turn g) Q (17, [l0, l1, l2, l3], .ref p :: st, w, k, n) = (go (rd g w p) 3 (fun _ => True) ∧ wt st ≤ 8 ∧ k + 1 ≤ 14 ∧ n + 4 ≤ 187 ∧ WP (MJx4a65c_iterator_32c93 g) (kx (fun v w' => WP (MX3_turn g) Q (20, [l0, l1, l2, l3], v.toList ++ st, w', k + 1, n + 4)) (fun E w' => Q (.inr E) w')) (0, [some (.ref p)], [], w, 0, 0)) := csV (M := (MX3_turn g)) (mc := (fun _ _ => 1)) (ms := (fun _ _ => 4)) (As := []) (rest := st) (MJx4a65c_iterator_32c93 g) rfl rfl dX3_turn_17 (by exact fun h => nomatch (show (none : Option Nat) = some 11 from h)) (by exact fun h => nomatch (show (none : Option Nat) = some 15 from h)) rfl rfl (by decide) (Nat.le_of_ble_eq_true rfl) (Nat.le_of_ble_eq_true rfl) rfl
theorem eX3_turn_20 : WP (MX3_turn g) Q (20, [l0, l1, l2, l3], .ref p :: st, w, k, n) = WP (MX3_turn g) Q (21, [l0, nl l1, some (.ref p), l3], st, w, k, n) := by rw [WP_at (M := (MX3_turn g)) rfl dX3_turn_20 (Or.inr rfl)]; exact and_t (Nat.le_of_ble_eq_true rfl)
theorem eX3_turn_20N : WP (MX3_turn g) Q (20, [l0, l1, l2, l3], .null :: st, w, k, n) = WP (MX3_turn g) Q (21, [l0, nl l1, some (.null), l3], st, w, k, n) := by rw [WP_at (M := (MX3_turn g)) rfl dX3_turn_20 (Or.inr rfl)]; exact and_t (Nat.le_of_ble_eq_true rfl)
theorem eX3_turn_21 : WP (MX3_turn g) Q (21, [l0, l1, some (.ref p), l3], st, w, k, n) = WP (MX3_turn g) Q (22, [l0, l1, some (.ref p), l3], .ref p :: st, w, k, n) := Eq.trans (WP_at (M := (MX3_turn g)) rfl dX3_turn_21 (Or.inr rfl)) rfl
theorem eX3_turn_22  : WP (MX3_turn g) Q (22, [l0, l1, l2, l3], .ref p :: st, w, k, n) = (go (rd g w p) 2 (fun _ => True) ∧ wt st ≤ 8 ∧ k + 0 ≤ 14 ∧ n + 0 ≤ 187 ∧ WP (MJx35411_hasNext_aae02 g) (kx (fun v w' => WP (MX3_turn g) Q (27, [l0, l1, l2, l3], v.toList ++ st, w', k + 0, n + 0)) (fun E w' => Q (.inr E) w')) (0, [some (.ref p)], [], w, 0, 0)) := csF (M := (MX3_turn g)) (mc := (fun _ _ => 0)) (ms := (fun _ _ => 0)) (As := []) (rest := st) (MJx35411_hasNext_aae02 g) rfl rfl dX3_turn_22 rfl rfl (Nat.le_of_ble_eq_true rfl) (Nat.le_of_ble_eq_true rfl) rfl
theorem eX3_turn_27 : WP (MX3_turn g) Q (27, [l0, l1, l2, l3], .int a :: st, w, k, n) = if a = 0 then WP (MX3_turn g) Q (49, [l0, l1, l2, l3], st, w, k, n) else WP (MX3_turn g) Q (30, [l0, l1, l2, l3], st, w, k, n) := ifc_e (a = 0) rfl dX3_turn_27 rfl (by decide)
theorem eX3_turn_30 : WP (MX3_turn g) Q (30, [l0, l1, some (.ref p), l3], st, w, k, n) = WP (MX3_turn g) Q (31, [l0, l1, some (.ref p), l3], .ref p :: st, w, k, n) := Eq.trans (WP_at (M := (MX3_turn g)) rfl dX3_turn_30 (Or.inr rfl)) rfl
theorem eX3_turn_30N : WP (MX3_turn g) Q (30, [l0, l1, some .null, l3], st, w, k, n) = WP (MX3_turn g) Q (31, [l0, l1, some .null, l3], .null :: st, w, k, n) := Eq.trans (WP_at (M := (MX3_turn g)) rfl dX3_turn_30 (Or.inr rfl)) rfl
theorem eX3_turn_31  : WP (MX3_turn g) Q (31, [l0, l1, l2, l3], .ref p :: st, w, k, n) = (go (rd g w p) 2 (fun _ => True) ∧ wt st ≤ 8 ∧ k + 0 ≤ 14 ∧ n + 0 ≤ 187 ∧ WP (MJx35411_next_0502b g) (kx (fun v w' => WP (MX3_turn g) Q (36, [l0, l1, l2, l3], v.toList ++ st, w', k + 0, n + 0)) (fun E w' => Q (.inr E) w')) (0, [some (.ref p), none, none], [], w, 0, 0)) := csF (M := (MX3_turn g)) (mc := (fun _ _ => 0)) (ms := (fun _ _ => 0)) (As := []) (rest := st) (MJx35411_next_0502b g) rfl rfl dX3_turn_31 rfl rfl (Nat.le_of_ble_eq_true rfl) (Nat.le_of_ble_eq_true rfl) rfl
theorem eX3_turn_36N : WP (MX3_turn g) Q (36, [l0, l1, l2, l3], .null :: st, w, k, n) = WP (MX3_turn g) Q (39, [l0, l1, l2, l3], .null :: st, w, k, n) := castN_e rfl dX3_turn_36
theorem eX3_turn_36R : WP (MX3_turn g) Q (36, [l0, l1, l2, l3], .ref p :: st, w, k, n) = ((∃ x, w p = some (.inl (0, x))) ∧ WP (MX3_turn g) Q (39, [l0, l1, l2, l3], .ref p :: st, w, k, n)) := castR_e rfl dX3_turn_36 rfl
theorem eX3_turn_39 : WP (MX3_turn g) Q (39, [l0, l1, l2, l3], .ref p :: st, w, k, n) = WP (MX3_turn g) Q (40, [l0, l1, nl l2, some (.ref p)], st, w, k, n) := by rw [WP_at (M := (MX3_turn g)) rfl dX3_turn_39 (Or.inr rfl)]; exact and_t (Nat.le_of_ble_eq_true rfl)
theorem eX3_turn_39N : WP (MX3_turn g) Q (39, [l0, l1, l2, l3], .null :: st, w, k, n) = WP (MX3_turn g) Q (40, [l0, l1, nl l2, some (.null)], st, w, k, n) := by rw [WP_at (M := (MX3_turn g)) rfl dX3_turn_39 (Or.inr rfl)]; exact and_t (Nat.le_of_ble_eq_true rfl)
theorem eX3_turn_40 : WP (MX3_turn g) Q (40, [l0, some (.ref p), l2, l3], st, w, k, n) = WP (MX3_turn g) Q (41, [l0, some (.ref p), l2, l3], .ref p :: st, w, k, n) := Eq.trans (WP_at (M := (MX3_turn g)) rfl dX3_turn_40 (Or.inr rfl)) rfl
theorem eX3_turn_40N : WP (MX3_turn g) Q (40, [l0, some .null, l2, l3], st, w, k, n) = WP (MX3_turn g) Q (41, [l0, some .null, l2, l3], .null :: st, w, k, n) := Eq.trans (WP_at (M := (MX3_turn g)) rfl dX3_turn_40 (Or.inr rfl)) rfl
theorem eX3_turn_41 : WP (MX3_turn g) Q (41, [l0, l1, l2, l3], st, w, k, n) = WP (MX3_turn g) Q (42, [l0, l1, l2, l3], .int 0 :: st, w, k, n) := iconst_e rfl dX3_turn_41 (by decide)
theorem eX3_turn_42 : WP (MX3_turn g) Q (42, [l0, l1, l2, some (.ref p)], st, w, k, n) = WP (MX3_turn g) Q (43, [l0, l1, l2, some (.ref p)], .ref p :: st, w, k, n) := Eq.trans (WP_at (M := (MX3_turn g)) rfl dX3_turn_42 (Or.inr rfl)) rfl
theorem eX3_turn_42N : WP (MX3_turn g) Q (42, [l0, l1, l2, some .null], st, w, k, n) = WP (MX3_turn g) Q (43, [l0, l1, l2, some .null], .null :: st, w, k, n) := Eq.trans (WP_at (M := (MX3_turn g)) rfl dX3_turn_42 (Or.inr rfl)) rfl
theorem eX3_turn_43R {z0 : Int32} {z1 : Nat} : WP (MX3_turn g) Q (43, [l0, l1, l2, l3], .ref z1 :: .int z0 :: .ref p :: st, w, k, n) = (go (rd g w p) 3 (fun _ => True) ∧ wt st ≤ 8 ∧ k + 1 ≤ 14 ∧ n + 15 ≤ 187 ∧ WP (MJx4a65c_add_7a177 g) (kx (fun v w' => WP (MX3_turn g) Q (46, [l0, l1, l2, l3], v.toList ++ st, w', k + 1, n + 15)) (fun E w' => Q (.inr E) w')) (0, [some (.ref p), some (.int z0), some (.ref z1), none, none], [], w, 0, 0)) := csV (M := (MX3_turn g)) (mc := (fun _ _ => 1)) (ms := (fun _ _ => 15)) (As := [.int z0, .ref z1]) (rest := st) (MJx4a65c_add_7a177 g) rfl rfl dX3_turn_43 (by exact fun h => nomatch (show (none : Option Nat) = some 11 from h)) (by exact fun h => nomatch (show (none : Option Nat) = some 15 from h)) rfl rfl (by decide) (Nat.le_of_ble_eq_true rfl) (Nat.le_of_ble_eq_true rfl) rfl
theorem eX3_turn_43N {z0 : Int32} : WP (MX3_turn g) Q (43, [l0, l1, l2, l3], .null :: .int z0 :: .ref p :: st, w, k, n) = (go (rd g w p) 3 (fun _ => True) ∧ wt st ≤ 8 ∧ k + 1 ≤ 14 ∧ n + 15 ≤ 187 ∧ WP (MJx4a65c_add_7a177 g) (kx (fun v w' => WP (MX3_turn g) Q (46, [l0, l1, l2, l3], v.toList ++ st, w', k + 1, n + 15)) (fun E w' => Q (.inr E) w')) (0, [some (.ref p), some (.int z0), some .null, none, none], [], w, 0, 0)) := csV (M := (MX3_turn g)) (mc := (fun _ _ => 1)) (ms := (fun _ _ => 15)) (As := [.int z0, .null]) (rest := st) (MJx4a65c_add_7a177 g) rfl rfl dX3_turn_43 (by exact fun h => nomatch (show (none : Option Nat) = some 11 from h)) (by exact fun h => nomatch (show (none : Option Nat) = some 15 from h)) rfl rfl (by decide) (Nat.le_of_ble_eq_true rfl) (Nat.le_of_ble_eq_true rfl) rfl
theorem eX3_turn_46 : WP (MX3_turn g) Q (46, [l0, l1, l2, l3], st, w, k, n) = WP (MX3_turn g) Q (21, [l0, l1, l2, l3], st, w, k, n) := goto_e rfl dX3_turn_46 (by decide)
theorem eX3_turn_49 : WP (MX3_turn g) Q (49, [some (.ref p), l1, l2, l3], st, w, k, n) = WP (MX3_turn g) Q (50, [some (.ref p), l1, l2, l3], .ref p :: st, w, k, n) := Eq.trans (WP_at (M := (MX3_turn g)) rfl dX3_turn_49 (Or.inr rfl)) rfl
theorem eX3_turn_49N : WP (MX3_turn g) Q (49, [some .null, l1, l2, l3], st, w, k, n) = WP (MX3_turn g) Q (50, [some .null, l1, l2, l3], .null :: st, w, k, n) := Eq.trans (WP_at (M := (MX3_turn g)) rfl dX3_turn_49 (Or.inr rfl)) rfl
theorem eX3_turn_50 : WP (MX3_turn g) Q (50, [l0, some (.ref p), l2, l3], st, w, k, n) = WP (MX3_turn g) Q (51, [l0, some (.ref p), l2, l3], .ref p :: st, w, k, n) := Eq.trans (WP_at (M := (MX3_turn g)) rfl dX3_turn_50 (Or.inr rfl)) rfl
theorem eX3_turn_50N : WP (MX3_turn g) Q (50, [l0, some .null, l2, l3], st, w, k, n) = WP (MX3_turn g) Q (51, [l0, some .null, l2, l3], .null :: st, w, k, n) := Eq.trans (WP_at (M := (MX3_turn g)) rfl dX3_turn_50 (Or.inr rfl)) rfl
theorem eX3_turn_51 : WP (MX3_turn g) Q (51, [l0, l1, l2, l3], v :: .ref p :: st, w, k, n) = go (w p) 7 fun fs => 3 < fs.length ∧ (narrow (tyX3 3) v = v ∧ fits (tyX3 3) v = true) ∧ WP (MX3_turn g) Q (54, [l0, l1, l2, l3], st, upw w p (.inr (7, fs.set 3 v)), k, n) := put_e (q := (RX3, TX3, 7)) rfl dX3_turn_51 rfl rfl (tyX3_ok 3 (by decide)) (Or.inl rfl)
theorem eX3_turn_54 : WP (MX3_turn g) Q (54, [some (.ref p), l1, l2, l3], st, w, k, n) = WP (MX3_turn g) Q (55, [some (.ref p), l1, l2, l3], .ref p :: st, w, k, n) := Eq.trans (WP_at (M := (MX3_turn g)) rfl dX3_turn_54 (Or.inr rfl)) rfl
theorem eX3_turn_54N : WP (MX3_turn g) Q (54, [some .null, l1, l2, l3], st, w, k, n) = WP (MX3_turn g) Q (55, [some .null, l1, l2, l3], .null :: st, w, k, n) := Eq.trans (WP_at (M := (MX3_turn g)) rfl dX3_turn_54 (Or.inr rfl)) rfl
theorem eX3_turn_55 : WP (MX3_turn g) Q (55, [l0, l1, l2, l3], .ref p :: st, w, k, n) = go (rd g w p) 7 fun fs => ∃ v, fs[3]? = some v ∧ WP (MX3_turn g) Q (58, [l0, l1, l2, l3], v :: st, w, k, n) := get_e rfl dX3_turn_55 rfl
theorem eX3_turn_58  : WP (MX3_turn g) Q (58, [l0, l1, l2, l3], .ref p :: st, w, k, n) = (go (rd g w p) 3 (fun _ => True) ∧ wt st ≤ 8 ∧ k + 0 ≤ 14 ∧ n + 0 ≤ 187 ∧ WP (MJx4a65c_size_8abf5 g) (kx (fun v w' => WP (MX3_turn g) Q (61, [l0, l1, l2, l3], v.toList ++ st, w', k + 0, n + 0)) (fun E w' => Q (.inr E) w')) (0, [some (.ref p)], [], w, 0, 0)) := csV (M := (MX3_turn g)) (mc := (fun _ _ => 0)) (ms := (fun _ _ => 0)) (As := []) (rest := st) (MJx4a65c_size_8abf5 g) rfl rfl dX3_turn_58 (by exact fun h => nomatch (show (none : Option Nat) = some 11 from h)) (by exact fun h => nomatch (show (none : Option Nat) = some 15 from h)) rfl rfl (by decide) (Nat.le_of_ble_eq_true rfl) (Nat.le_of_ble_eq_true rfl) rfl
set_option maxRecDepth 20000 in
theorem eX3_turn_61 : WP (MX3_turn g) Q (61, [l0, l1, l2, l3], [.int a], w, k, n) = (k ≤ 14 ∧ n ≤ 187 ∧ Q (.inl (some (.int a))) w) := iretI_e rfl dX3_turn_61 rfl
end
theorem wk_1610 : (.code yJx4a65c_add_7a177 cJx4a65c_add_7a177 5 (none) : Jvm.Cond) ∈ WS := WS_t7 112 rfl rfl
theorem wk_1607 : (.methodLink RX3 201 yJx4a65c_add_7a177 : Jvm.Cond) ∈ WS := WS_t7 109 rfl rfl
theorem wk_1608 : (.instanceMethod yJx4a65c_add_7a177 : Jvm.Cond) ∈ WS := WS_t7 110 rfl rfl
theorem wk_1609 : (.selects RJx4a65c yJx4a65c_add_7a177 yJx4a65c_add_7a177 : Jvm.Cond) ∈ WS := WS_t7 111 rfl rfl
theorem vMX3_turn {l : Launch} (hl : l.stackTraces = false) (G : GT) : vM l G (MX3_turn (gg G)) := ⟨fun i c j h => lookup_all (l := (MX3_turn (gg G)).fld) (P := fun i e => vFld RX3 i e.1 e.2) (all_c (vF_RX3_27) (all_c (vF_RX3_20) (all_n))) i (c, j) h, fun i c fs h => lookup_all (l := (MX3_turn (gg G)).new) (P := fun i e => vNew RX3 i e.1 e.2) (all_c (vN_RX3_13) (all_n)) i (c, fs) h, lookup_all (l := (MX3_turn (gg G)).anew) (P := fun i e => vANew RX3 i e) (all_n), lookup_all (l := (MX3_turn (gg G)).lng) (P := fun i e => Jvm.Cond.constantLong RX3 i e ∈ WS) (all_n), lookup_all (l := (MX3_turn (gg G)).thr) (P := fun i e => vThr RX3 cX3_turn i e) (all_n), fun h => absurd rfl h, lookup_all (l := (MX3_turn (gg G)).cal) (P := fun i e => vCal l G RX3 i e) (all_c (⟨cJx4a65c_init_da8c8, 1, none, fun y hy => by subst hy; exact ⟨by decide, ⟨_, wk_1124, okJx4a65c_init_da8c8 hl, Or.inl ⟨Nat.ne_of_beq_eq_false rfl, rfl⟩⟩, wk_63, ⟨(by decide : yJx4a65c_init_da8c8.cls ≠ "java/lang/invoke/MethodHandle"), (by decide : yJx4a65c_init_da8c8.cls ≠ "java/lang/invoke/VarHandle")⟩, ⟨(by decide +kernel : (parseMethodDescriptor yJx4a65c_init_da8c8.desc).map (fun d => d.parameters.length + 1) = some 1), rfl, wk_1122, wk_1123, rfl⟩⟩⟩) (all_c (⟨cJx4a65c_iterator_32c93, 1, some (.object "java/util/Iterator"), fun y hy => by subst hy; exact ⟨by decide, ⟨_, wk_1543, okJx4a65c_iterator_32c93 hl, Or.inl ⟨Nat.ne_of_beq_eq_false rfl, rfl⟩⟩, wk_63, ⟨(by decide : yJx4a65c_iterator_32c93.cls ≠ "java/lang/invoke/MethodHandle"), (by decide : yJx4a65c_iterator_32c93.cls ≠ "java/lang/invoke/VarHandle")⟩, ⟨(by decide +kernel : (parseMethodDescriptor yJx4a65c_iterator_32c93.desc).map (fun d => d.parameters.length + 1) = some 1), wk_1540, wk_1541, wk_1542, (RJx4a65c, TJx4a65c, 3), rfl, rfl⟩⟩⟩) (all_c (⟨cJx35411_hasNext_aae02, 1, some .boolean, fun y hy => by subst hy; exact ⟨by decide, ⟨_, wk_1572, okJx35411_hasNext_aae02 hl, Or.inl ⟨Nat.ne_of_beq_eq_false rfl, rfl⟩⟩, wk_87, ⟨(by decide : yJx35411_hasNext_aae02.cls ≠ "java/lang/invoke/MethodHandle"), (by decide : yJx35411_hasNext_aae02.cls ≠ "java/lang/invoke/VarHandle")⟩, ⟨(⟨"java/util/Iterator", "hasNext", "()Z"⟩ : MethodName), (by decide +kernel : (parseMethodDescriptor (⟨"java/util/Iterator", "hasNext", "()Z"⟩ : MethodName).desc).map (fun d => d.parameters.length + 1) = some 1), wk_1564, wk_1570, (RJx35411, TJx35411, 4), rfl, wk_1568, (by decide : (RJx35411, (⟨"java/util/Iterator", "hasNext", "()Z"⟩ : MethodName), yJx35411_hasNext_aae02) ∈ IFL)⟩⟩⟩) (all_c (⟨cJx35411_next_0502b, 3, some (.object "java/lang/Object"), fun y hy => by subst hy; exact ⟨by decide, ⟨_, wk_1581, okJx35411_next_0502b hl, Or.inl ⟨Nat.ne_of_beq_eq_false rfl, rfl⟩⟩, wk_87, ⟨(by decide : yJx35411_next_0502b.cls ≠ "java/lang/invoke/MethodHandle"), (by decide : yJx35411_next_0502b.cls ≠ "java/lang/invoke/VarHandle")⟩, ⟨(⟨"java/util/Iterator", "next", "()Ljava/lang/Object;"⟩ : MethodName), (by decide +kernel : (parseMethodDescriptor (⟨"java/util/Iterator", "next", "()Ljava/lang/Object;"⟩ : MethodName).desc).map (fun d => d.parameters.length + 1) = some 1), wk_1574, wk_1579, (RJx35411, TJx35411, 4), rfl, wk_1577, (by decide : (RJx35411, (⟨"java/util/Iterator", "next", "()Ljava/lang/Object;"⟩ : MethodName), yJx35411_next_0502b) ∈ IFL)⟩⟩⟩) (all_c (⟨cJx4a65c_add_7a177, 5, none, fun y hy => by subst hy; exact ⟨by decide, ⟨_, wk_1610, okJx4a65c_add_7a177 hl, Or.inl ⟨Nat.ne_of_beq_eq_false rfl, rfl⟩⟩, wk_63, ⟨(by decide : yJx4a65c_add_7a177.cls ≠ "java/lang/invoke/MethodHandle"), (by decide : yJx4a65c_add_7a177.cls ≠ "java/lang/invoke/VarHandle")⟩, ⟨(by decide +kernel : (parseMethodDescriptor yJx4a65c_add_7a177.desc).map (fun d => d.parameters.length + 1) = some 3), wk_1607, wk_1608, wk_1609, (RJx4a65c, TJx4a65c, 3), rfl, rfl⟩⟩⟩) (all_c (⟨cJx4a65c_size_8abf5, 1, some .int, fun y hy => by subst hy; exact ⟨by decide, ⟨_, wk_1523, okJx4a65c_size_8abf5 hl, Or.inl ⟨Nat.ne_of_beq_eq_false rfl, rfl⟩⟩, wk_63, ⟨(by decide : yJx4a65c_size_8abf5.cls ≠ "java/lang/invoke/MethodHandle"), (by decide : yJx4a65c_size_8abf5.cls ≠ "java/lang/invoke/VarHandle")⟩, ⟨(by decide +kernel : (parseMethodDescriptor yJx4a65c_size_8abf5.desc).map (fun d => d.parameters.length + 1) = some 1), wk_1520, wk_1521, wk_1522, (RJx4a65c, TJx4a65c, 3), rfl, rfl⟩⟩⟩) (all_n))))))), lookup_all (l := (MX3_turn (gg G)).stt) (P := fun i e => vStt G RX3 i e) (all_n), lookup_all (l := (MX3_turn (gg G)).cst) (P := fun i e => vCst RX3 i e) (all_c (⟨.long, rfl, (fun C h => by cases h), wk_1380⟩) (all_n)), fun h => absurd rfl h, rfl, all_n⟩
theorem okX3_turn {l : Launch} (hl : l.stackTraces = false) {G : GT} : ∀ (args : List Value) (w : Hw) (S : Ot → Hw → Prop), spOf (MX3_turn (gg G)) args w S → CX l G yX3_turn (.code yX3_turn cX3_turn 4 (some .int)) 6 14 187 args w S := CX_sp (M := MX3_turn (gg G)) (y := yX3_turn) hl (by decide) rfl (vMX3_turn hl G) (fun h => by cases h) rfl
/-! RangecardModel.sweep()I -/
theorem dX3_sweep_0 : decode cX3_sweep 0 = .ok (.aload_n 0, 1) := by decide +kernel
theorem dX3_sweep_1 : decode cX3_sweep 1 = .ok (.iconst 0, 1) := by decide +kernel
theorem dX3_sweep_2 : decode cX3_sweep 2 = .ok (.putfield 27, 3) := by decide +kernel
theorem dX3_sweep_5 : decode cX3_sweep 5 = .ok (.aload_n 0, 1) := by decide +kernel
theorem dX3_sweep_6 : decode cX3_sweep 6 = .ok (.getfield 20, 3) := by decide +kernel
theorem dX3_sweep_9 : decode cX3_sweep 9 = .ok (.invokevirtual 174, 3) := by decide +kernel
theorem dX3_sweep_12 : decode cX3_sweep 12 = .ok (.istore_n 1, 1) := by decide +kernel
theorem dX3_sweep_13 : decode cX3_sweep 13 = .ok (.aload_n 0, 1) := by decide +kernel
theorem dX3_sweep_14 : decode cX3_sweep 14 = .ok (.new 13, 3) := by decide +kernel
theorem dX3_sweep_17 : decode cX3_sweep 17 = .ok (.dup, 1) := by decide +kernel
theorem dX3_sweep_18 : decode cX3_sweep 18 = .ok (.invokespecial 15, 3) := by decide +kernel
theorem dX3_sweep_21 : decode cX3_sweep 21 = .ok (.putfield 20, 3) := by decide +kernel
theorem dX3_sweep_24 : decode cX3_sweep 24 = .ok (.iload_n 1, 1) := by decide +kernel
theorem dX3_sweep_25 : decode cX3_sweep 25 = .ok (.ireturn, 1) := by decide +kernel
def MX3_sweep (g : RO) : MT := ((RX3, cX3_sweep, 2, 4, 1, 3, false, some .int), [(27, 7, 0), (20, 7, 3)], [(13, 3, [.int 0, .null, .int 0])], [], [], [], 0, [(174, 2, 1, 3, 1, (fun _ _ => 0), (fun _ _ => 0), yJx4a65c_size_8abf5, spOf (MJx4a65c_size_8abf5 g)), (15, 4, 1, 3, 3, (fun _ _ => 0), (fun _ _ => 0), yJx4a65c_init_da8c8, spOf (MJx4a65c_init_da8c8 g))], [], [], 0, [], [], g)
section
variable {g : RO} {Q : Ot → Hw → Prop} {st : List Value} {w : Hw} {k n p q : Nat} {a b : Int32} {x y : Int64} {u v : Value} {l0 l1 : Option Value}
theorem eX3_sweep_0 : WP (MX3_sweep g) Q (0, [some (.ref p), l1], st, w, k, n) = WP (MX3_sweep g) Q (1, [some (.ref p), l1], .ref p :: st, w, k, n) := Eq.trans (WP_at (M := (MX3_sweep g)) rfl dX3_sweep_0 (Or.inr rfl)) rfl
theorem eX3_sweep_0N : WP (MX3_sweep g) Q (0, [some .null, l1], st, w, k, n) = WP (MX3_sweep g) Q (1, [some .null, l1], .null :: st, w, k, n) := Eq.trans (WP_at (M := (MX3_sweep g)) rfl dX3_sweep_0 (Or.inr rfl)) rfl
theorem eX3_sweep_1 : WP (MX3_sweep g) Q (1, [l0, l1], st, w, k, n) = WP (MX3_sweep g) Q (2, [l0, l1], .int 0 :: st, w, k, n) := iconst_e rfl dX3_sweep_1 (by decide)
theorem eX3_sweep_2 : WP (MX3_sweep g) Q (2, [l0, l1], v :: .ref p :: st, w, k, n) = go (w p) 7 fun fs => 0 < fs.length ∧ (narrow (.int) v = v ∧ fits (.int) v = true) ∧ WP (MX3_sweep g) Q (5, [l0, l1], st, upw w p (.inr (7, fs.set 0 v)), k, n) := put_e (q := (RX3, TX3, 7)) rfl dX3_sweep_2 rfl rfl (tyX3_ok 0 (by decide)) (Or.inl rfl)
theorem eX3_sweep_5 : WP (MX3_sweep g) Q (5, [some (.ref p), l1], st, w, k, n) = WP (MX3_sweep g) Q (6, [some (.ref p), l1], .ref p :: st, w, k, n) := Eq.trans (WP_at (M := (MX3_sweep g)) rfl dX3_sweep_5 (Or.inr rfl)) rfl
theorem eX3_sweep_5N : WP (MX3_sweep g) Q (5, [some .null, l1], st, w, k, n) = WP (MX3_sweep g) Q (6, [some .null, l1], .null :: st, w, k, n) := Eq.trans (WP_at (M := (MX3_sweep g)) rfl dX3_sweep_5 (Or.inr rfl)) rfl
theorem eX3_sweep_6 : WP (MX3_sweep g) Q (6, [l0, l1], .ref p :: st, w, k, n) = go (rd g w p) 7 fun fs => ∃ v, fs[3]? = some v ∧ WP (MX3_sweep g) Q (9, [l0, l1], v :: st, w, k, n) := get_e rfl dX3_sweep_6 rfl
theorem eX3_sweep_9  : WP (MX3_sweep g) Q (9, [l0, l1], .ref p :: st, w, k, n) = (go (rd g w p) 3 (fun _ => True) ∧ wt st ≤ 8 ∧ k + 0 ≤ 1 ∧ n + 0 ≤ 3 ∧ WP (MJx4a65c_size_8abf5 g) (kx (fun v w' => WP (MX3_sweep g) Q (12, [l0, l1], v.toList ++ st, w', k + 0, n + 0)) (fun E w' => Q (.inr E) w')) (0, [some (.ref p)], [], w, 0, 0)) := csV (M := (MX3_sweep g)) (mc := (fun _ _ => 0)) (ms := (fun _ _ => 0)) (As := []) (rest := st) (MJx4a65c_size_8abf5 g) rfl rfl dX3_sweep_9 (by exact fun h => nomatch (show (none : Option Nat) = some 11 from h)) (by exact fun h => nomatch (show (none : Option Nat) = some 15 from h)) rfl rfl (by decide) (Nat.le_of_ble_eq_true rfl) (Nat.le_of_ble_eq_true rfl) rfl
theorem eX3_sweep_12 : WP (MX3_sweep g) Q (12, [l0, l1], .int a :: st, w, k, n) = WP (MX3_sweep g) Q (13, [nl l0, some (.int a)], st, w, k, n) := by rw [WP_at (M := (MX3_sweep g)) rfl dX3_sweep_12 (Or.inr rfl)]; exact and_t (Nat.le_of_ble_eq_true rfl)
theorem eX3_sweep_13 : WP (MX3_sweep g) Q (13, [some (.ref p), l1], st, w, k, n) = WP (MX3_sweep g) Q (14, [some (.ref p), l1], .ref p :: st, w, k, n) := Eq.trans (WP_at (M := (MX3_sweep g)) rfl dX3_sweep_13 (Or.inr rfl)) rfl
theorem eX3_sweep_13N : WP (MX3_sweep g) Q (13, [some .null, l1], st, w, k, n) = WP (MX3_sweep g) Q (14, [some .null, l1], .null :: st, w, k, n) := Eq.trans (WP_at (M := (MX3_sweep g)) rfl dX3_sweep_13 (Or.inr rfl)) rfl
theorem eX3_sweep_14 : WP (MX3_sweep g) Q (14, [l0, l1], st, w, k, n) = (k + 1 ≤ 1 ∧ n + 3 ≤ 3 ∧ ∀ q : Nat, rd g w q = none → WP (MX3_sweep g) Q (17, [l0, l1], .ref q :: st, upw w q (.inr (3, [.int 0, .null, .int 0])), k + 1, n + 3)) := Eq.trans (new_e (M := (MX3_sweep g)) (fs := [.int 0, .null, .int 0]) rfl dX3_sweep_14 rfl) rfl
theorem eX3_sweep_17 : WP (MX3_sweep g) Q (17, [l0, l1], .int a :: st, w, k, n) = WP (MX3_sweep g) Q (18, [l0, l1], .int a :: .int a :: st, w, k, n) := by rw [WP_at (M := (MX3_sweep g)) rfl dX3_sweep_17 (Or.inr rfl)]; exact and_t rfl
theorem eX3_sweep_17R : WP (MX3_sweep g) Q (17, [l0, l1], .ref p :: st, w, k, n) = WP (MX3_sweep g) Q (18, [l0, l1], .ref p :: .ref p :: st, w, k, n) := by rw [WP_at (M := (MX3_sweep g)) rfl dX3_sweep_17 (Or.inr rfl)]; exact and_t rfl
theorem eX3_sweep_18  : WP (MX3_sweep g) Q (18, [l0, l1], .ref p :: st, w, k, n) = (wt st ≤ 8 ∧ k + 0 ≤ 1 ∧ n + 0 ≤ 3 ∧ WP (MJx4a65c_init_da8c8 g) (kx (fun v w' => WP (MX3_sweep g) Q (21, [l0, l1], v.toList ++ st, w', k + 0, n + 0)) (fun E w' => Q (.inr E) w')) (0, [some (.ref p)], [], w, 0, 0)) := csI (M := (MX3_sweep g)) (mc := (fun _ _ => 0)) (ms := (fun _ _ => 0)) (As := []) (rest := st) (MJx4a65c_init_da8c8 g) rfl rfl dX3_sweep_18 (Nat.ne_of_beq_eq_false rfl) rfl rfl (Nat.le_of_ble_eq_true rfl) (Nat.le_of_ble_eq_true rfl) rfl
theorem eX3_sweep_21 : WP (MX3_sweep g) Q (21, [l0, l1], v :: .ref p :: st, w, k, n) = go (w p) 7 fun fs => 3 < fs.length ∧ (narrow (tyX3 3) v = v ∧ fits (tyX3 3) v = true) ∧ WP (MX3_sweep g) Q (24, [l0, l1], st, upw w p (.inr (7, fs.set 3 v)), k, n) := put_e (q := (RX3, TX3, 7)) rfl dX3_sweep_21 rfl rfl (tyX3_ok 3 (by decide)) (Or.inl rfl)
theorem eX3_sweep_24 : WP (MX3_sweep g) Q (24, [l0, some (.int a)], st, w, k, n) = WP (MX3_sweep g) Q (25, [l0, some (.int a)], .int a :: st, w, k, n) := Eq.trans (WP_at (M := (MX3_sweep g)) rfl dX3_sweep_24 (Or.inr rfl)) rfl
theorem eX3_sweep_25 : WP (MX3_sweep g) Q (25, [l0, l1], [.int a], w, k, n) = (k ≤ 1 ∧ n ≤ 3 ∧ Q (.inl (some (.int a))) w) := iretI_e rfl dX3_sweep_25 rfl
end
theorem vMX3_sweep {l : Launch} (hl : l.stackTraces = false) (G : GT) : vM l G (MX3_sweep (gg G)) := ⟨fun i c j h => lookup_all (l := (MX3_sweep (gg G)).fld) (P := fun i e => vFld RX3 i e.1 e.2) (all_c (vF_RX3_27) (all_c (vF_RX3_20) (all_n))) i (c, j) h, fun i c fs h => lookup_all (l := (MX3_sweep (gg G)).new) (P := fun i e => vNew RX3 i e.1 e.2) (all_c (vN_RX3_13) (all_n)) i (c, fs) h, lookup_all (l := (MX3_sweep (gg G)).anew) (P := fun i e => vANew RX3 i e) (all_n), lookup_all (l := (MX3_sweep (gg G)).lng) (P := fun i e => Jvm.Cond.constantLong RX3 i e ∈ WS) (all_n), lookup_all (l := (MX3_sweep (gg G)).thr) (P := fun i e => vThr RX3 cX3_sweep i e) (all_n), fun h => absurd rfl h, lookup_all (l := (MX3_sweep (gg G)).cal) (P := fun i e => vCal l G RX3 i e) (all_c (⟨cJx4a65c_size_8abf5, 1, some .int, fun y hy => by subst hy; exact ⟨by decide, ⟨_, wk_1523, okJx4a65c_size_8abf5 hl, Or.inl ⟨Nat.ne_of_beq_eq_false rfl, rfl⟩⟩, wk_63, ⟨(by decide : yJx4a65c_size_8abf5.cls ≠ "java/lang/invoke/MethodHandle"), (by decide : yJx4a65c_size_8abf5.cls ≠ "java/lang/invoke/VarHandle")⟩, ⟨(by decide +kernel : (parseMethodDescriptor yJx4a65c_size_8abf5.desc).map (fun d => d.parameters.length + 1) = some 1), wk_1520, wk_1521, wk_1522, (RJx4a65c, TJx4a65c, 3), rfl, rfl⟩⟩⟩) (all_c (⟨cJx4a65c_init_da8c8, 1, none, fun y hy => by subst hy; exact ⟨by decide, ⟨_, wk_1124, okJx4a65c_init_da8c8 hl, Or.inl ⟨Nat.ne_of_beq_eq_false rfl, rfl⟩⟩, wk_63, ⟨(by decide : yJx4a65c_init_da8c8.cls ≠ "java/lang/invoke/MethodHandle"), (by decide : yJx4a65c_init_da8c8.cls ≠ "java/lang/invoke/VarHandle")⟩, ⟨(by decide +kernel : (parseMethodDescriptor yJx4a65c_init_da8c8.desc).map (fun d => d.parameters.length + 1) = some 1), rfl, wk_1122, wk_1123, rfl⟩⟩⟩) (all_n))), lookup_all (l := (MX3_sweep (gg G)).stt) (P := fun i e => vStt G RX3 i e) (all_n), lookup_all (l := (MX3_sweep (gg G)).cst) (P := fun i e => vCst RX3 i e) (all_n), fun h => absurd rfl h, rfl, all_n⟩
theorem okX3_sweep {l : Launch} (hl : l.stackTraces = false) {G : GT} : ∀ (args : List Value) (w : Hw) (S : Ot → Hw → Prop), spOf (MX3_sweep (gg G)) args w S → CX l G yX3_sweep (.code yX3_sweep cX3_sweep 2 (some .int)) 4 1 3 args w S := CX_sp (M := MX3_sweep (gg G)) (y := yX3_sweep) hl (by decide) rfl (vMX3_sweep hl G) (fun h => by cases h) rfl
/-! RangecardModel.isAhead(I)Z -/
theorem dX3_isAhead_0 : decode cX3_isAhead 0 = .ok (.iconst 0, 1) := by decide +kernel
theorem dX3_isAhead_1 : decode cX3_isAhead 1 = .ok (.istore_n 2, 1) := by decide +kernel
theorem dX3_isAhead_2 : decode cX3_isAhead 2 = .ok (.iconst 0, 1) := by decide +kernel
theorem dX3_isAhead_3 : decode cX3_isAhead 3 = .ok (.istore_n 3, 1) := by decide +kernel
theorem dX3_isAhead_4 : decode cX3_isAhead 4 = .ok (.iload_n 3, 1) := by decide +kernel
theorem dX3_isAhead_5 : decode cX3_isAhead 5 = .ok (.iload_n 1, 1) := by decide +kernel
theorem dX3_isAhead_6 : decode cX3_isAhead 6 = .ok (.if_icmp .ge 37, 3) := by decide +kernel
theorem dX3_isAhead_9 : decode cX3_isAhead 9 = .ok (.iload_n 2, 1) := by decide +kernel
theorem dX3_isAhead_10 : decode cX3_isAhead 10 = .ok (.aload_n 0, 1) := by decide +kernel
theorem dX3_isAhead_11 : decode cX3_isAhead 11 = .ok (.getfield 20, 3) := by decide +kernel
theorem dX3_isAhead_14 : decode cX3_isAhead 14 = .ok (.iload_n 3, 1) := by decide +kernel
theorem dX3_isAhead_15 : decode cX3_isAhead 15 = .ok (.invokevirtual 42, 3) := by decide +kernel
theorem dX3_isAhead_18 : decode cX3_isAhead 18 = .ok (.checkcast 125, 3) := by decide +kernel
theorem dX3_isAhead_21 : decode cX3_isAhead 21 = .ok (.aload_n 0, 1) := by decide +kernel
theorem dX3_isAhead_22 : decode cX3_isAhead 22 = .ok (.getfield 20, 3) := by decide +kernel
theorem dX3_isAhead_25 : decode cX3_isAhead 25 = .ok (.iload_n 1, 1) := by decide +kernel
theorem dX3_isAhead_26 : decode cX3_isAhead 26 = .ok (.invokevirtual 42, 3) := by decide +kernel
theorem dX3_isAhead_29 : decode cX3_isAhead 29 = .ok (.checkcast 125, 3) := by decide +kernel
theorem dX3_isAhead_32 : decode cX3_isAhead 32 = .ok (.invokestatic 126, 3) := by decide +kernel
theorem dX3_isAhead_35 : decode cX3_isAhead 35 = .ok (.ior, 1) := by decide +kernel
theorem dX3_isAhead_36 : decode cX3_isAhead 36 = .ok (.istore_n 2, 1) := by decide +kernel
theorem dX3_isAhead_37 : decode cX3_isAhead 37 = .ok (.iinc 3 1, 3) := by decide +kernel
theorem dX3_isAhead_40 : decode cX3_isAhead 40 = .ok (.goto (-36), 3) := by decide +kernel
theorem dX3_isAhead_43 : decode cX3_isAhead 43 = .ok (.iload_n 2, 1) := by decide +kernel
theorem dX3_isAhead_44 : decode cX3_isAhead 44 = .ok (.ireturn, 1) := by decide +kernel
def MX3_isAhead (g : RO) : MT := ((RX3, cX3_isAhead, 4, 4, 0, 0, false, some .boolean), [(20, 7, 3)], [], [], [], [], 0, [(42, 2, 2, 3, 3, (fun _ _ => 0), (fun _ _ => 0), yJx4a65c_get_915e3, spOf (MJx4a65c_get_915e3 g)), (126, 0, 2, 0, 1, (fun _ _ => 0), (fun _ _ => 0), yX3_same, spOf (MX3_same g))], [], [(125, 0)], 0, [], [], g)
section
variable {g : RO} {Q : Ot → Hw → Prop} {st : List Value} {w : Hw} {k n p q : Nat} {a b : Int32} {x y : Int64} {u v : Value} {l0 l1 l2 l3 : Option Value}
theorem eX3_isAhead_0 : WP (MX3_isAhead g) Q (0, [l0, l1, l2, l3], st, w, k, n) = WP (MX3_isAhead g) Q (1, [l0, l1, l2, l3], .int 0 :: st, w, k, n) := iconst_e rfl dX3_isAhead_0 (by decide)
theorem eX3_isAhead_1 : WP (MX3_isAhead g) Q (1, [l0, l1, l2, l3], .int a :: st, w, k, n) = WP (MX3_isAhead g) Q (2, [l0, nl l1, some (.int a), l3], st, w, k, n) := by rw [WP_at (M := (MX3_isAhead g)) rfl dX3_isAhead_1 (Or.inr rfl)]; exact and_t (Nat.le_of_ble_eq_true rfl)
theorem eX3_isAhead_2 : WP (MX3_isAhead g) Q (2, [l0, l1, l2, l3], st, w, k, n) = WP (MX3_isAhead g) Q (3, [l0, l1, l2, l3], .int 0 :: st, w, k, n) := iconst_e rfl dX3_isAhead_2 (by decide)
theorem eX3_isAhead_3 : WP (MX3_isAhead g) Q (3, [l0, l1, l2, l3], .int a :: st, w, k, n) = WP (MX3_isAhead g) Q (4, [l0, l1, nl l2, some (.int a)], st, w, k, n) := by rw [WP_at (M := (MX3_isAhead g)) rfl dX3_isAhead_3 (Or.inr rfl)]; exact and_t (Nat.le_of_ble_eq_true rfl)
theorem eX3_isAhead_4 : WP (MX3_isAhead g) Q (4, [l0, l1, l2, some (.int a)], st, w, k, n) = WP (MX3_isAhead g) Q (5, [l0, l1, l2, some (.int a)], .int a :: st, w, k, n) := Eq.trans (WP_at (M := (MX3_isAhead g)) rfl dX3_isAhead_4 (Or.inr rfl)) rfl
theorem eX3_isAhead_5 : WP (MX3_isAhead g) Q (5, [l0, some (.int a), l2, l3], st, w, k, n) = WP (MX3_isAhead g) Q (6, [l0, some (.int a), l2, l3], .int a :: st, w, k, n) := Eq.trans (WP_at (M := (MX3_isAhead g)) rfl dX3_isAhead_5 (Or.inr rfl)) rfl
theorem eX3_isAhead_6 : WP (MX3_isAhead g) Q (6, [l0, l1, l2, l3], .int b :: .int a :: st, w, k, n) = if b ≤ a then WP (MX3_isAhead g) Q (43, [l0, l1, l2, l3], st, w, k, n) else WP (MX3_isAhead g) Q (9, [l0, l1, l2, l3], st, w, k, n) := icm_e (b ≤ a) rfl dX3_isAhead_6 rfl (by decide)
theorem eX3_isAhead_9 : WP (MX3_isAhead g) Q (9, [l0, l1, some (.int a), l3], st, w, k, n) = WP (MX3_isAhead g) Q (10, [l0, l1, some (.int a), l3], .int a :: st, w, k, n) := Eq.trans (WP_at (M := (MX3_isAhead g)) rfl dX3_isAhead_9 (Or.inr rfl)) rfl
theorem eX3_isAhead_10 : WP (MX3_isAhead g) Q (10, [some (.ref p), l1, l2, l3], st, w, k, n) = WP (MX3_isAhead g) Q (11, [some (.ref p), l1, l2, l3], .ref p :: st, w, k, n) := Eq.trans (WP_at (M := (MX3_isAhead g)) rfl dX3_isAhead_10 (Or.inr rfl)) rfl
theorem eX3_isAhead_10N : WP (MX3_isAhead g) Q (10, [some .null, l1, l2, l3], st, w, k, n) = WP (MX3_isAhead g) Q (11, [some .null, l1, l2, l3], .null :: st, w, k, n) := Eq.trans (WP_at (M := (MX3_isAhead g)) rfl dX3_isAhead_10 (Or.inr rfl)) rfl
theorem eX3_isAhead_11 : WP (MX3_isAhead g) Q (11, [l0, l1, l2, l3], .ref p :: st, w, k, n) = go (rd g w p) 7 fun fs => ∃ v, fs[3]? = some v ∧ WP (MX3_isAhead g) Q (14, [l0, l1, l2, l3], v :: st, w, k, n) := get_e rfl dX3_isAhead_11 rfl
theorem eX3_isAhead_14 : WP (MX3_isAhead g) Q (14, [l0, l1, l2, some (.int a)], st, w, k, n) = WP (MX3_isAhead g) Q (15, [l0, l1, l2, some (.int a)], .int a :: st, w, k, n) := Eq.trans (WP_at (M := (MX3_isAhead g)) rfl dX3_isAhead_14 (Or.inr rfl)) rfl
theorem eX3_isAhead_15 {z0 : Int32} : WP (MX3_isAhead g) Q (15, [l0, l1, l2, l3], .int z0 :: .ref p :: st, w, k, n) = (go (rd g w p) 3 (fun _ => True) ∧ wt st ≤ 8 ∧ k + 0 ≤ 0 ∧ n + 0 ≤ 0 ∧ WP (MJx4a65c_get_915e3 g) (kx (fun v w' => WP (MX3_isAhead g) Q (18, [l0, l1, l2, l3], v.toList ++ st, w', k + 0, n + 0)) (fun E w' => Q (.inr E) w')) (0, [some (.ref p), some (.int z0)], [], w, 0, 0)) := csV (M := (MX3_isAhead g)) (mc := (fun _ _ => 0)) (ms := (fun _ _ => 0)) (As := [.int z0]) (rest := st) (MJx4a65c_get_915e3 g) rfl rfl dX3_isAhead_15 (by exact fun h => nomatch (show (none : Option Nat) = some 11 from h)) (by exact fun h => nomatch (show (none : Option Nat) = some 15 from h)) rfl rfl (by decide) (Nat.le_of_ble_eq_true rfl) (Nat.le_of_ble_eq_true rfl) rfl
theorem eX3_isAhead_18N : WP (MX3_isAhead g) Q (18, [l0, l1, l2, l3], .null :: st, w, k, n) = WP (MX3_isAhead g) Q (21, [l0, l1, l2, l3], .null :: st, w, k, n) := castN_e rfl dX3_isAhead_18
theorem eX3_isAhead_18R : WP (MX3_isAhead g) Q (18, [l0, l1, l2, l3], .ref p :: st, w, k, n) = ((∃ x, w p = some (.inl (0, x))) ∧ WP (MX3_isAhead g) Q (21, [l0, l1, l2, l3], .ref p :: st, w, k, n)) := castR_e rfl dX3_isAhead_18 rfl
theorem eX3_isAhead_21 : WP (MX3_isAhead g) Q (21, [some (.ref p), l1, l2, l3], st, w, k, n) = WP (MX3_isAhead g) Q (22, [some (.ref p), l1, l2, l3], .ref p :: st, w, k, n) := Eq.trans (WP_at (M := (MX3_isAhead g)) rfl dX3_isAhead_21 (Or.inr rfl)) rfl
theorem eX3_isAhead_21N : WP (MX3_isAhead g) Q (21, [some .null, l1, l2, l3], st, w, k, n) = WP (MX3_isAhead g) Q (22, [some .null, l1, l2, l3], .null :: st, w, k, n) := Eq.trans (WP_at (M := (MX3_isAhead g)) rfl dX3_isAhead_21 (Or.inr rfl)) rfl
theorem eX3_isAhead_22 : WP (MX3_isAhead g) Q (22, [l0, l1, l2, l3], .ref p :: st, w, k, n) = go (rd g w p) 7 fun fs => ∃ v, fs[3]? = some v ∧ WP (MX3_isAhead g) Q (25, [l0, l1, l2, l3], v :: st, w, k, n) := get_e rfl dX3_isAhead_22 rfl
theorem eX3_isAhead_25 : WP (MX3_isAhead g) Q (25, [l0, some (.int a), l2, l3], st, w, k, n) = WP (MX3_isAhead g) Q (26, [l0, some (.int a), l2, l3], .int a :: st, w, k, n) := Eq.trans (WP_at (M := (MX3_isAhead g)) rfl dX3_isAhead_25 (Or.inr rfl)) rfl
theorem eX3_isAhead_26 {z0 : Int32} : WP (MX3_isAhead g) Q (26, [l0, l1, l2, l3], .int z0 :: .ref p :: st, w, k, n) = (go (rd g w p) 3 (fun _ => True) ∧ wt st ≤ 8 ∧ k + 0 ≤ 0 ∧ n + 0 ≤ 0 ∧ WP (MJx4a65c_get_915e3 g) (kx (fun v w' => WP (MX3_isAhead g) Q (29, [l0, l1, l2, l3], v.toList ++ st, w', k + 0, n + 0)) (fun E w' => Q (.inr E) w')) (0, [some (.ref p), some (.int z0)], [], w, 0, 0)) := csV (M := (MX3_isAhead g)) (mc := (fun _ _ => 0)) (ms := (fun _ _ => 0)) (As := [.int z0]) (rest := st) (MJx4a65c_get_915e3 g) rfl rfl dX3_isAhead_26 (by exact fun h => nomatch (show (none : Option Nat) = some 11 from h)) (by exact fun h => nomatch (show (none : Option Nat) = some 15 from h)) rfl rfl (by decide) (Nat.le_of_ble_eq_true rfl) (Nat.le_of_ble_eq_true rfl) rfl
theorem eX3_isAhead_29N : WP (MX3_isAhead g) Q (29, [l0, l1, l2, l3], .null :: st, w, k, n) = WP (MX3_isAhead g) Q (32, [l0, l1, l2, l3], .null :: st, w, k, n) := castN_e rfl dX3_isAhead_29
theorem eX3_isAhead_29R : WP (MX3_isAhead g) Q (29, [l0, l1, l2, l3], .ref p :: st, w, k, n) = ((∃ x, w p = some (.inl (0, x))) ∧ WP (MX3_isAhead g) Q (32, [l0, l1, l2, l3], .ref p :: st, w, k, n)) := castR_e rfl dX3_isAhead_29 rfl
theorem eX3_isAhead_32RR {z0 : Nat} {z1 : Nat} : WP (MX3_isAhead g) Q (32, [l0, l1, l2, l3], .ref z1 :: .ref z0 :: st, w, k, n) = (wt st ≤ 8 ∧ k + 0 ≤ 0 ∧ n + 0 ≤ 0 ∧ WP (MX3_same g) (kx (fun v w' => WP (MX3_isAhead g) Q (35, [l0, l1, l2, l3], v.toList ++ st, w', k + 0, n + 0)) (fun E w' => Q (.inr E) w')) (0, [some (.ref z0), some (.ref z1), none, none], [], w, 0, 0)) := csS (M := (MX3_isAhead g)) (mc := (fun _ _ => 0)) (ms := (fun _ _ => 0)) (As := [.ref z0, .ref z1]) (rest := st) (MX3_same g) rfl rfl dX3_isAhead_32 (Nat.ne_of_beq_eq_false rfl) (by exact fun h => nomatch (show (none : Option Nat) = some 12 from h)) (by exact fun h => nomatch (show (none : Option Nat) = some 13 from h)) (by exact fun h => nomatch (show (none : Option Nat) = some 14 from h)) rfl rfl (by decide) (Nat.le_of_ble_eq_true rfl) (Nat.le_of_ble_eq_true rfl) rfl
theorem eX3_isAhead_32NR {z1 : Nat} : WP (MX3_isAhead g) Q (32, [l0, l1, l2, l3], .ref z1 :: .null :: st, w, k, n) = (wt st ≤ 8 ∧ k + 0 ≤ 0 ∧ n + 0 ≤ 0 ∧ WP (MX3_same g) (kx (fun v w' => WP (MX3_isAhead g) Q (35, [l0, l1, l2, l3], v.toList ++ st, w', k + 0, n + 0)) (fun E w' => Q (.inr E) w')) (0, [some .null, some (.ref z1), none, none], [], w, 0, 0)) := csS (M := (MX3_isAhead g)) (mc := (fun _ _ => 0)) (ms := (fun _ _ => 0)) (As := [.null, .ref z1]) (rest := st) (MX3_same g) rfl rfl dX3_isAhead_32 (Nat.ne_of_beq_eq_false rfl) (by exact fun h => nomatch (show (none : Option Nat) = some 12 from h)) (by exact fun h => nomatch (show (none : Option Nat) = some 13 from h)) (by exact fun h => nomatch (show (none : Option Nat) = some 14 from h)) rfl rfl (by decide) (Nat.le_of_ble_eq_true rfl) (Nat.le_of_ble_eq_true rfl) rfl
theorem eX3_isAhead_32RN {z0 : Nat} : WP (MX3_isAhead g) Q (32, [l0, l1, l2, l3], .null :: .ref z0 :: st, w, k, n) = (wt st ≤ 8 ∧ k + 0 ≤ 0 ∧ n + 0 ≤ 0 ∧ WP (MX3_same g) (kx (fun v w' => WP (MX3_isAhead g) Q (35, [l0, l1, l2, l3], v.toList ++ st, w', k + 0, n + 0)) (fun E w' => Q (.inr E) w')) (0, [some (.ref z0), some .null, none, none], [], w, 0, 0)) := csS (M := (MX3_isAhead g)) (mc := (fun _ _ => 0)) (ms := (fun _ _ => 0)) (As := [.ref z0, .null]) (rest := st) (MX3_same g) rfl rfl dX3_isAhead_32 (Nat.ne_of_beq_eq_false rfl) (by exact fun h => nomatch (show (none : Option Nat) = some 12 from h)) (by exact fun h => nomatch (show (none : Option Nat) = some 13 from h)) (by exact fun h => nomatch (show (none : Option Nat) = some 14 from h)) rfl rfl (by decide) (Nat.le_of_ble_eq_true rfl) (Nat.le_of_ble_eq_true rfl) rfl
theorem eX3_isAhead_32NN  : WP (MX3_isAhead g) Q (32, [l0, l1, l2, l3], .null :: .null :: st, w, k, n) = (wt st ≤ 8 ∧ k + 0 ≤ 0 ∧ n + 0 ≤ 0 ∧ WP (MX3_same g) (kx (fun v w' => WP (MX3_isAhead g) Q (35, [l0, l1, l2, l3], v.toList ++ st, w', k + 0, n + 0)) (fun E w' => Q (.inr E) w')) (0, [some .null, some .null, none, none], [], w, 0, 0)) := csS (M := (MX3_isAhead g)) (mc := (fun _ _ => 0)) (ms := (fun _ _ => 0)) (As := [.null, .null]) (rest := st) (MX3_same g) rfl rfl dX3_isAhead_32 (Nat.ne_of_beq_eq_false rfl) (by exact fun h => nomatch (show (none : Option Nat) = some 12 from h)) (by exact fun h => nomatch (show (none : Option Nat) = some 13 from h)) (by exact fun h => nomatch (show (none : Option Nat) = some 14 from h)) rfl rfl (by decide) (Nat.le_of_ble_eq_true rfl) (Nat.le_of_ble_eq_true rfl) rfl
theorem eX3_isAhead_35 : WP (MX3_isAhead g) Q (35, [l0, l1, l2, l3], .int b :: .int a :: st, w, k, n) = WP (MX3_isAhead g) Q (36, [l0, l1, l2, l3], .int (a ||| b) :: st, w, k, n) := Eq.trans (WP_at (M := (MX3_isAhead g)) rfl dX3_isAhead_35 (Or.inr rfl)) rfl
theorem eX3_isAhead_36 : WP (MX3_isAhead g) Q (36, [l0, l1, l2, l3], .int a :: st, w, k, n) = WP (MX3_isAhead g) Q (37, [l0, nl l1, some (.int a), l3], st, w, k, n) := by rw [WP_at (M := (MX3_isAhead g)) rfl dX3_isAhead_36 (Or.inr rfl)]; exact and_t (Nat.le_of_ble_eq_true rfl)
theorem eX3_isAhead_37 : WP (MX3_isAhead g) Q (37, [l0, l1, l2, some (.int a)], st, w, k, n) = WP (MX3_isAhead g) Q (40, [l0, l1, nl l2, some (.int (a + 1))], st, w, k, n) := Eq.trans (iinc_e (M := (MX3_isAhead g)) (L := [l0, l1, l2, some (.int a)]) (d := 1) rfl dX3_isAhead_37 (by decide) rfl) rfl
theorem eX3_isAhead_40 : WP (MX3_isAhead g) Q (40, [l0, l1, l2, l3], st, w, k, n) = WP (MX3_isAhead g) Q (4, [l0, l1, l2, l3], st, w, k, n) := goto_e rfl dX3_isAhead_40 (by decide)
theorem eX3_isAhead_43 : WP (MX3_isAhead g) Q (43, [l0, l1, some (.int a), l3], st, w, k, n) = WP (MX3_isAhead g) Q (44, [l0, l1, some (.int a), l3], .int a :: st, w, k, n) := Eq.trans (WP_at (M := (MX3_isAhead g)) rfl dX3_isAhead_43 (Or.inr rfl)) rfl
set_option maxRecDepth 20000 in
theorem eX3_isAhead_44 : WP (MX3_isAhead g) Q (44, [l0, l1, l2, l3], [.int a], w, k, n) = (narrow (.boolean) (.int a) = .int a ∧ k ≤ 0 ∧ n ≤ 0 ∧ Q (.inl (some (.int a))) w) := iret_e rfl dX3_isAhead_44 rfl
end
theorem vMX3_isAhead {l : Launch} (hl : l.stackTraces = false) (G : GT) : vM l G (MX3_isAhead (gg G)) := ⟨fun i c j h => lookup_all (l := (MX3_isAhead (gg G)).fld) (P := fun i e => vFld RX3 i e.1 e.2) (all_c (vF_RX3_20) (all_n)) i (c, j) h, fun i c fs h => lookup_all (l := (MX3_isAhead (gg G)).new) (P := fun i e => vNew RX3 i e.1 e.2) (all_n) i (c, fs) h, lookup_all (l := (MX3_isAhead (gg G)).anew) (P := fun i e => vANew RX3 i e) (all_n), lookup_all (l := (MX3_isAhead (gg G)).lng) (P := fun i e => Jvm.Cond.constantLong RX3 i e ∈ WS) (all_n), lookup_all (l := (MX3_isAhead (gg G)).thr) (P := fun i e => vThr RX3 cX3_isAhead i e) (all_n), fun h => absurd rfl h, lookup_all (l := (MX3_isAhead (gg G)).cal) (P := fun i e => vCal l G RX3 i e) (all_c (⟨cJx4a65c_get_915e3, 2, some (.object "java/lang/Object"), fun y hy => by subst hy; exact ⟨by decide, ⟨_, wk_1379, okJx4a65c_get_915e3 hl, Or.inl ⟨Nat.ne_of_beq_eq_false rfl, rfl⟩⟩, wk_63, ⟨(by decide : yJx4a65c_get_915e3.cls ≠ "java/lang/invoke/MethodHandle"), (by decide : yJx4a65c_get_915e3.cls ≠ "java/lang/invoke/VarHandle")⟩, ⟨(by decide +kernel : (parseMethodDescriptor yJx4a65c_get_915e3.desc).map (fun d => d.parameters.length + 1) = some 2), wk_1376, wk_1377, wk_1378, (RJx4a65c, TJx4a65c, 3), rfl, rfl⟩⟩⟩) (all_c (⟨cX3_same, 4, some .boolean, fun y hy => by subst hy; exact ⟨by decide, ⟨_, wk_1387, okX3_same hl, Or.inl ⟨Nat.ne_of_beq_eq_false rfl, rfl⟩⟩, wk_60, ⟨(by decide : yX3_same.cls ≠ "java/lang/invoke/MethodHandle"), (by decide : yX3_same.cls ≠ "java/lang/invoke/VarHandle")⟩, ⟨(by decide +kernel : (parseMethodDescriptor yX3_same.desc).map (fun d => d.parameters.length) = some 2), wk_1385, wk_1386⟩⟩⟩) (all_n))), lookup_all (l := (MX3_isAhead (gg G)).stt) (P := fun i e => vStt G RX3 i e) (all_n), lookup_all (l := (MX3_isAhead (gg G)).cst) (P := fun i e => vCst RX3 i e) (all_c (⟨.long, rfl, (fun C h => by cases h), wk_1380⟩) (all_n)), fun h => absurd rfl h, rfl, all_n⟩
theorem okX3_isAhead {l : Launch} (hl : l.stackTraces = false) {G : GT} : ∀ (args : List Value) (w : Hw) (S : Ot → Hw → Prop), spOf (MX3_isAhead (gg G)) args w S → CX l G yX3_isAhead (.code yX3_isAhead cX3_isAhead 4 (some .boolean)) 4 0 0 args w S := CX_sp (M := MX3_isAhead (gg G)) (y := yX3_isAhead) hl (by decide) rfl (vMX3_isAhead hl G) (fun h => by cases h) rfl
/-! RangecardModel.pileNow(II)I -/
theorem dX3_pileNow_0 : decode cX3_pileNow 0 = .ok (.iconst 0, 1) := by decide +kernel
theorem dX3_pileNow_1 : decode cX3_pileNow 1 = .ok (.istore_n 3, 1) := by decide +kernel
theorem dX3_pileNow_2 : decode cX3_pileNow 2 = .ok (.iconst 0, 1) := by decide +kernel
theorem dX3_pileNow_3 : decode cX3_pileNow 3 = .ok (.istore 4, 2) := by decide +kernel
theorem dX3_pileNow_5 : decode cX3_pileNow 5 = .ok (.iload 4, 2) := by decide +kernel
theorem dX3_pileNow_7 : decode cX3_pileNow 7 = .ok (.aload_n 0, 1) := by decide +kernel
theorem dX3_pileNow_8 : decode cX3_pileNow 8 = .ok (.getfield 20, 3) := by decide +kernel
theorem dX3_pileNow_11 : decode cX3_pileNow 11 = .ok (.invokevirtual 174, 3) := by decide +kernel
theorem dX3_pileNow_14 : decode cX3_pileNow 14 = .ok (.if_icmp .ge 98, 3) := by decide +kernel
theorem dX3_pileNow_17 : decode cX3_pileNow 17 = .ok (.aload_n 0, 1) := by decide +kernel
theorem dX3_pileNow_18 : decode cX3_pileNow 18 = .ok (.getfield 20, 3) := by decide +kernel
theorem dX3_pileNow_21 : decode cX3_pileNow 21 = .ok (.iload 4, 2) := by decide +kernel
theorem dX3_pileNow_23 : decode cX3_pileNow 23 = .ok (.invokevirtual 42, 3) := by decide +kernel
theorem dX3_pileNow_26 : decode cX3_pileNow 26 = .ok (.checkcast 125, 3) := by decide +kernel
theorem dX3_pileNow_29 : decode cX3_pileNow 29 = .ok (.astore 5, 2) := by decide +kernel
theorem dX3_pileNow_31 : decode cX3_pileNow 31 = .ok (.bipush 6, 2) := by decide +kernel
theorem dX3_pileNow_33 : decode cX3_pileNow 33 = .ok (.newarray .boolean, 2) := by decide +kernel
theorem dX3_pileNow_35 : decode cX3_pileNow 35 = .ok (.dup, 1) := by decide +kernel
theorem dX3_pileNow_36 : decode cX3_pileNow 36 = .ok (.iconst 0, 1) := by decide +kernel
theorem dX3_pileNow_37 : decode cX3_pileNow 37 = .ok (.iconst 1, 1) := by decide +kernel
theorem dX3_pileNow_38 : decode cX3_pileNow 38 = .ok (.bastore, 1) := by decide +kernel
theorem dX3_pileNow_39 : decode cX3_pileNow 39 = .ok (.dup, 1) := by decide +kernel
theorem dX3_pileNow_40 : decode cX3_pileNow 40 = .ok (.iconst 1, 1) := by decide +kernel
theorem dX3_pileNow_41 : decode cX3_pileNow 41 = .ok (.aload 5, 2) := by decide +kernel
theorem dX3_pileNow_43 : decode cX3_pileNow 43 = .ok (.aload_n 0, 1) := by decide +kernel
theorem dX3_pileNow_44 : decode cX3_pileNow 44 = .ok (.getfield 9, 3) := by decide +kernel
theorem dX3_pileNow_47 : decode cX3_pileNow 47 = .ok (.iload_n 1, 1) := by decide +kernel
theorem dX3_pileNow_48 : decode cX3_pileNow 48 = .ok (.laload, 1) := by decide +kernel
theorem dX3_pileNow_49 : decode cX3_pileNow 49 = .ok (.iconst 0, 1) := by decide +kernel
theorem dX3_pileNow_50 : decode cX3_pileNow 50 = .ok (.invokestatic 152, 3) := by decide +kernel
theorem dX3_pileNow_53 : decode cX3_pileNow 53 = .ok (.bastore, 1) := by decide +kernel
theorem dX3_pileNow_54 : decode cX3_pileNow 54 = .ok (.dup, 1) := by decide +kernel
theorem dX3_pileNow_55 : decode cX3_pileNow 55 = .ok (.iconst 2, 1) := by decide +kernel
theorem dX3_pileNow_56 : decode cX3_pileNow 56 = .ok (.aload 5, 2) := by decide +kernel
theorem dX3_pileNow_58 : decode cX3_pileNow 58 = .ok (.aload_n 0, 1) := by decide +kernel
theorem dX3_pileNow_59 : decode cX3_pileNow 59 = .ok (.getfield 9, 3) := by decide +kernel
theorem dX3_pileNow_62 : decode cX3_pileNow 62 = .ok (.iload_n 1, 1) := by decide +kernel
theorem dX3_pileNow_63 : decode cX3_pileNow 63 = .ok (.laload, 1) := by decide +kernel
theorem dX3_pileNow_64 : decode cX3_pileNow 64 = .ok (.iconst 1, 1) := by decide +kernel
theorem dX3_pileNow_65 : decode cX3_pileNow 65 = .ok (.invokestatic 152, 3) := by decide +kernel
theorem dX3_pileNow_68 : decode cX3_pileNow 68 = .ok (.bastore, 1) := by decide +kernel
theorem dX3_pileNow_69 : decode cX3_pileNow 69 = .ok (.dup, 1) := by decide +kernel
theorem dX3_pileNow_70 : decode cX3_pileNow 70 = .ok (.iconst 3, 1) := by decide +kernel
theorem dX3_pileNow_71 : decode cX3_pileNow 71 = .ok (.aload 5, 2) := by decide +kernel
theorem dX3_pileNow_73 : decode cX3_pileNow 73 = .ok (.invokestatic 130, 3) := by decide +kernel
theorem dX3_pileNow_76 : decode cX3_pileNow 76 = .ok (.bastore, 1) := by decide +kernel
theorem dX3_pileNow_77 : decode cX3_pileNow 77 = .ok (.dup, 1) := by decide +kernel
theorem dX3_pileNow_78 : decode cX3_pileNow 78 = .ok (.iconst 4, 1) := by decide +kernel
theorem dX3_pileNow_79 : decode cX3_pileNow 79 = .ok (.aload 5, 2) := by decide +kernel
theorem dX3_pileNow_81 : decode cX3_pileNow 81 = .ok (.invokestatic 137, 3) := by decide +kernel
theorem dX3_pileNow_84 : decode cX3_pileNow 84 = .ok (.bastore, 1) := by decide +kernel
theorem dX3_pileNow_85 : decode cX3_pileNow 85 = .ok (.dup, 1) := by decide +kernel
theorem dX3_pileNow_86 : decode cX3_pileNow 86 = .ok (.iconst 5, 1) := by decide +kernel
theorem dX3_pileNow_87 : decode cX3_pileNow 87 = .ok (.aload_n 0, 1) := by decide +kernel
theorem dX3_pileNow_88 : decode cX3_pileNow 88 = .ok (.iload 4, 2) := by decide +kernel
theorem dX3_pileNow_90 : decode cX3_pileNow 90 = .ok (.invokevirtual 204, 3) := by decide +kernel
theorem dX3_pileNow_93 : decode cX3_pileNow 93 = .ok (.bastore, 1) := by decide +kernel
theorem dX3_pileNow_94 : decode cX3_pileNow 94 = .ok (.astore 6, 2) := by decide +kernel
theorem dX3_pileNow_96 : decode cX3_pileNow 96 = .ok (.iload_n 3, 1) := by decide +kernel
theorem dX3_pileNow_97 : decode cX3_pileNow 97 = .ok (.aload 6, 2) := by decide +kernel
theorem dX3_pileNow_99 : decode cX3_pileNow 99 = .ok (.iload_n 2, 1) := by decide +kernel
theorem dX3_pileNow_100 : decode cX3_pileNow 100 = .ok (.baload, 1) := by decide +kernel
theorem dX3_pileNow_101 : decode cX3_pileNow 101 = .ok (.invokestatic 92, 3) := by decide +kernel
theorem dX3_pileNow_104 : decode cX3_pileNow 104 = .ok (.iadd, 1) := by decide +kernel
theorem dX3_pileNow_105 : decode cX3_pileNow 105 = .ok (.istore_n 3, 1) := by decide +kernel
theorem dX3_pileNow_106 : decode cX3_pileNow 106 = .ok (.iinc 4 1, 3) := by decide +kernel
theorem dX3_pileNow_109 : decode cX3_pileNow 109 = .ok (.goto (-104), 3) := by decide +kernel
theorem dX3_pileNow_112 : decode cX3_pileNow 112 = .ok (.iload_n 3, 1) := by decide +kernel
theorem dX3_pileNow_113 : decode cX3_pileNow 113 = .ok (.ireturn, 1) := by decide +kernel
def MX3_pileNow (g : RO) : MT := ((RX3, cX3_pileNow, 7, 5, 12, 72, false, some .int), [(20, 7, 3), (9, 7, 1)], [], [], [], [], 0, [(174, 2, 1, 3, 1, (fun _ _ => 0), (fun _ _ => 0), yJx4a65c_size_8abf5, spOf (MJx4a65c_size_8abf5 g)), (42, 2, 2, 3, 3, (fun _ _ => 0), (fun _ _ => 0), yJx4a65c_get_915e3, spOf (MJx4a65c_get_915e3 g)), (152, 0, 3, 0, 2, (fun _ _ => 0), (fun _ _ => 0), yX3_valid, spOf (MX3_valid g)), (130, 0, 1, 0, 1, (fun _ _ => 0), (fun _ _ => 0), yX3_fixed, spOf (MX3_fixed g)), (137, 0, 1, 0, 1, (fun _ _ => 0), (fun _ _ => 0), yX3_small, spOf (MX3_small g)), (204, 2, 2, 7, 4, (fun _ _ => 0), (fun _ _ => 0), yX3_isAhead, spOf (MX3_isAhead g)), (92, 0, 1, 0, 1, (fun _ _ => 0), (fun _ _ => 0), yX3_one, spOf (MX3_one g))], [], [(125, 0)], 0, [], [], g)
section
variable {g : RO} {Q : Ot → Hw → Prop} {st : List Value} {w : Hw} {k n p q : Nat} {a b : Int32} {x y : Int64} {u v : Value} {l0 l1 l2 l3 l4 l5 l6 : Option Value}
theorem eX3_pileNow_0 : WP (MX3_pileNow g) Q (0, [l0, l1, l2, l3, l4, l5, l6], st, w, k, n) = WP (MX3_pileNow g) Q (1, [l0, l1, l2, l3, l4, l5, l6], .int 0 :: st, w, k, n) := iconst_e rfl dX3_pileNow_0 (by decide)
theorem eX3_pileNow_1 : WP (MX3_pileNow g) Q (1, [l0, l1, l2, l3, l4, l5, l6], .int a :: st, w, k, n) = WP (MX3_pileNow g) Q (2, [l0, l1, nl l2, some (.int a), l4, l5, l6], st, w, k, n) := by rw [WP_at (M := (MX3_pileNow g)) rfl dX3_pileNow_1 (Or.inr rfl)]; exact and_t (Nat.le_of_ble_eq_true rfl)
theorem eX3_pileNow_2 : WP (MX3_pileNow g) Q (2, [l0, l1, l2, l3, l4, l5, l6], st, w, k, n) = WP (MX3_pileNow g) Q (3, [l0, l1, l2, l3, l4, l5, l6], .int 0 :: st, w, k, n) := iconst_e rfl dX3_pileNow_2 (by decide)
theorem eX3_pileNow_3 : WP (MX3_pileNow g) Q (3, [l0, l1, l2, l3, l4, l5, l6], .int a :: st, w, k, n) = WP (MX3_pileNow g) Q (5, [l0, l1, l2, nl l3, some (.int a), l5, l6], st, w, k, n) := by rw [WP_at (M := (MX3_pileNow g)) rfl dX3_pileNow_3 (Or.inr rfl)]; exact and_t (Nat.le_of_ble_eq_true rfl)
theorem eX3_pileNow_5 : WP (MX3_pileNow g) Q (5, [l0, l1, l2, l3, some (.int a), l5, l6], st, w, k, n) = WP (MX3_pileNow g) Q (7, [l0, l1, l2, l3, some (.int a), l5, l6], .int a :: st, w, k, n) := Eq.trans (WP_at (M := (MX3_pileNow g)) rfl dX3_pileNow_5 (Or.inr rfl)) rfl
theorem eX3_pileNow_7 : WP (MX3_pileNow g) Q (7, [some (.ref p), l1, l2, l3, l4, l5, l6], st, w, k, n) = WP (MX3_pileNow g) Q (8, [some (.ref p), l1, l2, l3, l4, l5, l6], .ref p :: st, w, k, n) := Eq.trans (WP_at (M := (MX3_pileNow g)) rfl dX3_pileNow_7 (Or.inr rfl)) rfl
theorem eX3_pileNow_7N : WP (MX3_pileNow g) Q (7, [some .null, l1, l2, l3, l4, l5, l6], st, w, k, n) = WP (MX3_pileNow g) Q (8, [some .null, l1, l2, l3, l4, l5, l6], .null :: st, w, k, n) := Eq.trans (WP_at (M := (MX3_pileNow g)) rfl dX3_pileNow_7 (Or.inr rfl)) rfl
theorem eX3_pileNow_8 : WP (MX3_pileNow g) Q (8, [l0, l1, l2, l3, l4, l5, l6], .ref p :: st, w, k, n) = go (rd g w p) 7 fun fs => ∃ v, fs[3]? = some v ∧ WP (MX3_pileNow g) Q (11, [l0, l1, l2, l3, l4, l5, l6], v :: st, w, k, n) := get_e rfl dX3_pileNow_8 rfl
theorem eX3_pileNow_11  : WP (MX3_pileNow g) Q (11, [l0, l1, l2, l3, l4, l5, l6], .ref p :: st, w, k, n) = (go (rd g w p) 3 (fun _ => True) ∧ wt st ≤ 8 ∧ k + 0 ≤ 12 ∧ n + 0 ≤ 72 ∧ WP (MJx4a65c_size_8abf5 g) (kx (fun v w' => WP (MX3_pileNow g) Q (14, [l0, l1, l2, l3, l4, l5, l6], v.toList ++ st, w', k + 0, n + 0)) (fun E w' => Q (.inr E) w')) (0, [some (.ref p)], [], w, 0, 0)) := csV (M := (MX3_pileNow g)) (mc := (fun _ _ => 0)) (ms := (fun _ _ => 0)) (As := []) (rest := st) (MJx4a65c_size_8abf5 g) rfl rfl dX3_pileNow_11 (by exact fun h => nomatch (show (none : Option Nat) = some 11 from h)) (by exact fun h => nomatch (show (none : Option Nat) = some 15 from h)) rfl rfl (by decide) (Nat.le_of_ble_eq_true rfl) (Nat.le_of_ble_eq_true rfl) rfl
theorem eX3_pileNow_14 : WP (MX3_pileNow g) Q (14, [l0, l1, l2, l3, l4, l5, l6], .int b :: .int a :: st, w, k, n) = if b ≤ a then WP (MX3_pileNow g) Q (112, [l0, l1, l2, l3, l4, l5, l6], st, w, k, n) else WP (MX3_pileNow g) Q (17, [l0, l1, l2, l3, l4, l5, l6], st, w, k, n) := icm_e (b ≤ a) rfl dX3_pileNow_14 rfl (by decide)
theorem eX3_pileNow_17 : WP (MX3_pileNow g) Q (17, [some (.ref p), l1, l2, l3, l4, l5, l6], st, w, k, n) = WP (MX3_pileNow g) Q (18, [some (.ref p), l1, l2, l3, l4, l5, l6], .ref p :: st, w, k, n) := Eq.trans (WP_at (M := (MX3_pileNow g)) rfl dX3_pileNow_17 (Or.inr rfl)) rfl
theorem eX3_pileNow_17N : WP (MX3_pileNow g) Q (17, [some .null, l1, l2, l3, l4, l5, l6], st, w, k, n) = WP (MX3_pileNow g) Q (18, [some .null, l1, l2, l3, l4, l5, l6], .null :: st, w, k, n) := Eq.trans (WP_at (M := (MX3_pileNow g)) rfl dX3_pileNow_17 (Or.inr rfl)) rfl
theorem eX3_pileNow_18 : WP (MX3_pileNow g) Q (18, [l0, l1, l2, l3, l4, l5, l6], .ref p :: st, w, k, n) = go (rd g w p) 7 fun fs => ∃ v, fs[3]? = some v ∧ WP (MX3_pileNow g) Q (21, [l0, l1, l2, l3, l4, l5, l6], v :: st, w, k, n) := get_e rfl dX3_pileNow_18 rfl
theorem eX3_pileNow_21 : WP (MX3_pileNow g) Q (21, [l0, l1, l2, l3, some (.int a), l5, l6], st, w, k, n) = WP (MX3_pileNow g) Q (23, [l0, l1, l2, l3, some (.int a), l5, l6], .int a :: st, w, k, n) := Eq.trans (WP_at (M := (MX3_pileNow g)) rfl dX3_pileNow_21 (Or.inr rfl)) rfl
theorem eX3_pileNow_23 {z0 : Int32} : WP (MX3_pileNow g) Q (23, [l0, l1, l2, l3, l4, l5, l6], .int z0 :: .ref p :: st, w, k, n) = (go (rd g w p) 3 (fun _ => True) ∧ wt st ≤ 8 ∧ k + 0 ≤ 12 ∧ n + 0 ≤ 72 ∧ WP (MJx4a65c_get_915e3 g) (kx (fun v w' => WP (MX3_pileNow g) Q (26, [l0, l1, l2, l3, l4, l5, l6], v.toList ++ st, w', k + 0, n + 0)) (fun E w' => Q (.inr E) w')) (0, [some (.ref p), some (.int z0)], [], w, 0, 0)) := csV (M := (MX3_pileNow g)) (mc := (fun _ _ => 0)) (ms := (fun _ _ => 0)) (As := [.int z0]) (rest := st) (MJx4a65c_get_915e3 g) rfl rfl dX3_pileNow_23 (by exact fun h => nomatch (show (none : Option Nat) = some 11 from h)) (by exact fun h => nomatch (show (none : Option Nat) = some 15 from h)) rfl rfl (by decide) (Nat.le_of_ble_eq_true rfl) (Nat.le_of_ble_eq_true rfl) rfl
theorem eX3_pileNow_26N : WP (MX3_pileNow g) Q (26, [l0, l1, l2, l3, l4, l5, l6], .null :: st, w, k, n) = WP (MX3_pileNow g) Q (29, [l0, l1, l2, l3, l4, l5, l6], .null :: st, w, k, n) := castN_e rfl dX3_pileNow_26
theorem eX3_pileNow_26R : WP (MX3_pileNow g) Q (26, [l0, l1, l2, l3, l4, l5, l6], .ref p :: st, w, k, n) = ((∃ x, w p = some (.inl (0, x))) ∧ WP (MX3_pileNow g) Q (29, [l0, l1, l2, l3, l4, l5, l6], .ref p :: st, w, k, n)) := castR_e rfl dX3_pileNow_26 rfl
theorem eX3_pileNow_29 : WP (MX3_pileNow g) Q (29, [l0, l1, l2, l3, l4, l5, l6], .ref p :: st, w, k, n) = WP (MX3_pileNow g) Q (31, [l0, l1, l2, l3, nl l4, some (.ref p), l6], st, w, k, n) := by rw [WP_at (M := (MX3_pileNow g)) rfl dX3_pileNow_29 (Or.inr rfl)]; exact and_t (Nat.le_of_ble_eq_true rfl)
theorem eX3_pileNow_29N : WP (MX3_pileNow g) Q (29, [l0, l1, l2, l3, l4, l5, l6], .null :: st, w, k, n) = WP (MX3_pileNow g) Q (31, [l0, l1, l2, l3, nl l4, some (.null), l6], st, w, k, n) := by rw [WP_at (M := (MX3_pileNow g)) rfl dX3_pileNow_29 (Or.inr rfl)]; exact and_t (Nat.le_of_ble_eq_true rfl)
theorem eX3_pileNow_31 : WP (MX3_pileNow g) Q (31, [l0, l1, l2, l3, l4, l5, l6], st, w, k, n) = WP (MX3_pileNow g) Q (33, [l0, l1, l2, l3, l4, l5, l6], .int 6 :: st, w, k, n) := bipush_e rfl dX3_pileNow_31 (by decide)
theorem eX3_pileNow_33 : WP (MX3_pileNow g) Q (33, [l0, l1, l2, l3, l4, l5, l6], .int a :: st, w, k, n) = (¬ a < 0 ∧ a.toNatClampNeg ≤ 40000 ∧ k + 1 ≤ 12 ∧ n + a.toNatClampNeg ≤ 72 ∧ ∀ q : Nat, rd g w q = none → WP (MX3_pileNow g) Q (35, [l0, l1, l2, l3, l4, l5, l6], .ref q :: st, upw w q (.inl (3, a.toNatClampNeg, .inl fun _ => 0)), k + 1, n + a.toNatClampNeg)) := Eq.trans (WP_at (M := (MX3_pileNow g)) rfl dX3_pileNow_33 (Or.inr rfl)) rfl
theorem eX3_pileNow_35 : WP (MX3_pileNow g) Q (35, [l0, l1, l2, l3, l4, l5, l6], .int a :: st, w, k, n) = WP (MX3_pileNow g) Q (36, [l0, l1, l2, l3, l4, l5, l6], .int a :: .int a :: st, w, k, n) := by rw [WP_at (M := (MX3_pileNow g)) rfl dX3_pileNow_35 (Or.inr rfl)]; exact and_t rfl
theorem eX3_pileNow_35R : WP (MX3_pileNow g) Q (35, [l0, l1, l2, l3, l4, l5, l6], .ref p :: st, w, k, n) = WP (MX3_pileNow g) Q (36, [l0, l1, l2, l3, l4, l5, l6], .ref p :: .ref p :: st, w, k, n) := by rw [WP_at (M := (MX3_pileNow g)) rfl dX3_pileNow_35 (Or.inr rfl)]; exact and_t rfl
theorem eX3_pileNow_36 : WP (MX3_pileNow g) Q (36, [l0, l1, l2, l3, l4, l5, l6], st, w, k, n) = WP (MX3_pileNow g) Q (37, [l0, l1, l2, l3, l4, l5, l6], .int 0 :: st, w, k, n) := iconst_e rfl dX3_pileNow_36 (by decide)
theorem eX3_pileNow_37 : WP (MX3_pileNow g) Q (37, [l0, l1, l2, l3, l4, l5, l6], st, w, k, n) = WP (MX3_pileNow g) Q (38, [l0, l1, l2, l3, l4, l5, l6], .int 1 :: st, w, k, n) := iconst_e rfl dX3_pileNow_37 (by decide)
theorem eX3_pileNow_38 : WP (MX3_pileNow g) Q (38, [l0, l1, l2, l3, l4, l5, l6], .int b :: .int a :: .ref p :: st, w, k, n) = gb (w p) fun t N f => vp_in a N ∧ WP (MX3_pileNow g) Q (39, [l0, l1, l2, l3, l4, l5, l6], st, upw w p (.inl (t, N, .inl (upd f a.toNatClampNeg (vp_nar (bty t) b)))), k, n) := Eq.trans (WP_at (M := (MX3_pileNow g)) rfl dX3_pileNow_38 (Or.inr rfl)) rfl
theorem eX3_pileNow_39 : WP (MX3_pileNow g) Q (39, [l0, l1, l2, l3, l4, l5, l6], .int a :: st, w, k, n) = WP (MX3_pileNow g) Q (40, [l0, l1, l2, l3, l4, l5, l6], .int a :: .int a :: st, w, k, n) := by rw [WP_at (M := (MX3_pileNow g)) rfl dX3_pileNow_39 (Or.inr rfl)]; exact and_t rfl
theorem eX3_pileNow_39R : WP (MX3_pileNow g) Q (39, [l0, l1, l2, l3, l4, l5, l6], .ref p :: st, w, k, n) = WP (MX3_pileNow g) Q (40, [l0, l1, l2, l3, l4, l5, l6], .ref p :: .ref p :: st, w, k, n) := by rw [WP_at (M := (MX3_pileNow g)) rfl dX3_pileNow_39 (Or.inr rfl)]; exact and_t rfl
theorem eX3_pileNow_40 : WP (MX3_pileNow g) Q (40, [l0, l1, l2, l3, l4, l5, l6], st, w, k, n) = WP (MX3_pileNow g) Q (41, [l0, l1, l2, l3, l4, l5, l6], .int 1 :: st, w, k, n) := iconst_e rfl dX3_pileNow_40 (by decide)
theorem eX3_pileNow_41 : WP (MX3_pileNow g) Q (41, [l0, l1, l2, l3, l4, some (.ref p), l6], st, w, k, n) = WP (MX3_pileNow g) Q (43, [l0, l1, l2, l3, l4, some (.ref p), l6], .ref p :: st, w, k, n) := Eq.trans (WP_at (M := (MX3_pileNow g)) rfl dX3_pileNow_41 (Or.inr rfl)) rfl
theorem eX3_pileNow_41N : WP (MX3_pileNow g) Q (41, [l0, l1, l2, l3, l4, some .null, l6], st, w, k, n) = WP (MX3_pileNow g) Q (43, [l0, l1, l2, l3, l4, some .null, l6], .null :: st, w, k, n) := Eq.trans (WP_at (M := (MX3_pileNow g)) rfl dX3_pileNow_41 (Or.inr rfl)) rfl
theorem eX3_pileNow_43 : WP (MX3_pileNow g) Q (43, [some (.ref p), l1, l2, l3, l4, l5, l6], st, w, k, n) = WP (MX3_pileNow g) Q (44, [some (.ref p), l1, l2, l3, l4, l5, l6], .ref p :: st, w, k, n) := Eq.trans (WP_at (M := (MX3_pileNow g)) rfl dX3_pileNow_43 (Or.inr rfl)) rfl
theorem eX3_pileNow_43N : WP (MX3_pileNow g) Q (43, [some .null, l1, l2, l3, l4, l5, l6], st, w, k, n) = WP (MX3_pileNow g) Q (44, [some .null, l1, l2, l3, l4, l5, l6], .null :: st, w, k, n) := Eq.trans (WP_at (M := (MX3_pileNow g)) rfl dX3_pileNow_43 (Or.inr rfl)) rfl
theorem eX3_pileNow_44 : WP (MX3_pileNow g) Q (44, [l0, l1, l2, l3, l4, l5, l6], .ref p :: st, w, k, n) = go (rd g w p) 7 fun fs => ∃ v, fs[1]? = some v ∧ WP (MX3_pileNow g) Q (47, [l0, l1, l2, l3, l4, l5, l6], v :: st, w, k, n) := get_e rfl dX3_pileNow_44 rfl
theorem eX3_pileNow_47 : WP (MX3_pileNow g) Q (47, [l0, some (.int a), l2, l3, l4, l5, l6], st, w, k, n) = WP (MX3_pileNow g) Q (48, [l0, some (.int a), l2, l3, l4, l5, l6], .int a :: st, w, k, n) := Eq.trans (WP_at (M := (MX3_pileNow g)) rfl dX3_pileNow_47 (Or.inr rfl)) rfl
theorem eX3_pileNow_48 : WP (MX3_pileNow g) Q (48, [l0, l1, l2, l3, l4, l5, l6], .int a :: .ref p :: st, w, k, n) = gl (rd g w p) 0 fun N f => vp_in a N ∧ WP (MX3_pileNow g) Q (49, [l0, l1, l2, l3, l4, l5, l6], .long (f a.toNatClampNeg) :: st, w, k, n) := Eq.trans (WP_at (M := (MX3_pileNow g)) rfl dX3_pileNow_48 (Or.inr rfl)) rfl
theorem eX3_pileNow_49 : WP (MX3_pileNow g) Q (49, [l0, l1, l2, l3, l4, l5, l6], st, w, k, n) = WP (MX3_pileNow g) Q (50, [l0, l1, l2, l3, l4, l5, l6], .int 0 :: st, w, k, n) := iconst_e rfl dX3_pileNow_49 (by decide)
theorem eX3_pileNow_50R {z0 : Nat} {z1 : Int64} {z2 : Int32} : WP (MX3_pileNow g) Q (50, [l0, l1, l2, l3, l4, l5, l6], .int z2 :: .long z1 :: .ref z0 :: st, w, k, n) = (wt st ≤ 8 ∧ k + 0 ≤ 12 ∧ n + 0 ≤ 72 ∧ WP (MX3_valid g) (kx (fun v w' => WP (MX3_pileNow g) Q (53, [l0, l1, l2, l3, l4, l5, l6], v.toList ++ st, w', k + 0, n + 0)) (fun E w' => Q (.inr E) w')) (0, [some (.ref z0), some (.long z1), none, some (.int z2)], [], w, 0, 0)) := csS (M := (MX3_pileNow g)) (mc := (fun _ _ => 0)) (ms := (fun _ _ => 0)) (As := [.ref z0, .long z1, .int z2]) (rest := st) (MX3_valid g) rfl rfl dX3_pileNow_50 (Nat.ne_of_beq_eq_false rfl) (by exact fun h => nomatch (show (none : Option Nat) = some 12 from h)) (by exact fun h => nomatch (show (none : Option Nat) = some 13 from h)) (by exact fun h => nomatch (show (none : Option Nat) = some 14 from h)) rfl rfl (by decide) (Nat.le_of_ble_eq_true rfl) (Nat.le_of_ble_eq_true rfl) rfl
theorem eX3_pileNow_50N {z1 : Int64} {z2 : Int32} : WP (MX3_pileNow g) Q (50, [l0, l1, l2, l3, l4, l5, l6], .int z2 :: .long z1 :: .null :: st, w, k, n) = (wt st ≤ 8 ∧ k + 0 ≤ 12 ∧ n + 0 ≤ 72 ∧ WP (MX3_valid g) (kx (fun v w' => WP (MX3_pileNow g) Q (53, [l0, l1, l2, l3, l4, l5, l6], v.toList ++ st, w', k + 0, n + 0)) (fun E w' => Q (.inr E) w')) (0, [some .null, some (.long z1), none, some (.int z2)], [], w, 0, 0)) := csS (M := (MX3_pileNow g)) (mc := (fun _ _ => 0)) (ms := (fun _ _ => 0)) (As := [.null, .long z1, .int z2]) (rest := st) (MX3_valid g) rfl rfl dX3_pileNow_50 (Nat.ne_of_beq_eq_false rfl) (by exact fun h => nomatch (show (none : Option Nat) = some 12 from h)) (by exact fun h => nomatch (show (none : Option Nat) = some 13 from h)) (by exact fun h => nomatch (show (none : Option Nat) = some 14 from h)) rfl rfl (by decide) (Nat.le_of_ble_eq_true rfl) (Nat.le_of_ble_eq_true rfl) rfl
theorem eX3_pileNow_53 : WP (MX3_pileNow g) Q (53, [l0, l1, l2, l3, l4, l5, l6], .int b :: .int a :: .ref p :: st, w, k, n) = gb (w p) fun t N f => vp_in a N ∧ WP (MX3_pileNow g) Q (54, [l0, l1, l2, l3, l4, l5, l6], st, upw w p (.inl (t, N, .inl (upd f a.toNatClampNeg (vp_nar (bty t) b)))), k, n) := Eq.trans (WP_at (M := (MX3_pileNow g)) rfl dX3_pileNow_53 (Or.inr rfl)) rfl
theorem eX3_pileNow_54 : WP (MX3_pileNow g) Q (54, [l0, l1, l2, l3, l4, l5, l6], .int a :: st, w, k, n) = WP (MX3_pileNow g) Q (55, [l0, l1, l2, l3, l4, l5, l6], .int a :: .int a :: st, w, k, n) := by rw [WP_at (M := (MX3_pileNow g)) rfl dX3_pileNow_54 (Or.inr rfl)]; exact and_t rfl
theorem eX3_pileNow_54R : WP (MX3_pileNow g) Q (54, [l0, l1, l2, l3, l4, l5, l6], .ref p :: st, w, k, n) = WP (MX3_pileNow g) Q (55, [l0, l1, l2, l3, l4, l5, l6], .ref p :: .ref p :: st, w, k, n) := by rw [WP_at (M := (MX3_pileNow g)) rfl dX3_pileNow_54 (Or.inr rfl)]; exact and_t rfl
theorem eX3_pileNow_55 : WP (MX3_pileNow g) Q (55, [l0, l1, l2, l3, l4, l5, l6], st, w, k, n) = WP (MX3_pileNow g) Q (56, [l0, l1, l2, l3, l4, l5, l6], .int 2 :: st, w, k, n) := iconst_e rfl dX3_pileNow_55 (by decide)
theorem eX3_pileNow_56 : WP (MX3_pileNow g) Q (56, [l0, l1, l2, l3, l4, some (.ref p), l6], st, w, k, n) = WP (MX3_pileNow g) Q (58, [l0, l1, l2, l3, l4, some (.ref p), l6], .ref p :: st, w, k, n) := Eq.trans (WP_at (M := (MX3_pileNow g)) rfl dX3_pileNow_56 (Or.inr rfl)) rfl
theorem eX3_pileNow_56N : WP (MX3_pileNow g) Q (56, [l0, l1, l2, l3, l4, some .null, l6], st, w, k, n) = WP (MX3_pileNow g) Q (58, [l0, l1, l2, l3, l4, some .null, l6], .null :: st, w, k, n) := Eq.trans (WP_at (M := (MX3_pileNow g)) rfl dX3_pileNow_56 (Or.inr rfl)) rfl
theorem eX3_pileNow_58 : WP (MX3_pileNow g) Q (58, [some (.ref p), l1, l2, l3, l4, l5, l6], st, w, k, n) = WP (MX3_pileNow g) Q (59, [some (.ref p), l1, l2, l3, l4, l5, l6], .ref p :: st, w, k, n) := Eq.trans (WP_at (M := (MX3_pileNow g)) rfl dX3_pileNow_58 (Or.inr rfl)) rfl
theorem eX3_pileNow_58N : WP (MX3_pileNow g) Q (58, [some .null, l1, l2, l3, l4, l5, l6], st, w, k, n) = WP (MX3_pileNow g) Q (59, [some .null, l1, l2, l3, l4, l5, l6], .null :: st, w, k, n) := Eq.trans (WP_at (M := (MX3_pileNow g)) rfl dX3_pileNow_58 (Or.inr rfl)) rfl
theorem eX3_pileNow_59 : WP (MX3_pileNow g) Q (59, [l0, l1, l2, l3, l4, l5, l6], .ref p :: st, w, k, n) = go (rd g w p) 7 fun fs => ∃ v, fs[1]? = some v ∧ WP (MX3_pileNow g) Q (62, [l0, l1, l2, l3, l4, l5, l6], v :: st, w, k, n) := get_e rfl dX3_pileNow_59 rfl
theorem eX3_pileNow_62 : WP (MX3_pileNow g) Q (62, [l0, some (.int a), l2, l3, l4, l5, l6], st, w, k, n) = WP (MX3_pileNow g) Q (63, [l0, some (.int a), l2, l3, l4, l5, l6], .int a :: st, w, k, n) := Eq.trans (WP_at (M := (MX3_pileNow g)) rfl dX3_pileNow_62 (Or.inr rfl)) rfl
theorem eX3_pileNow_63 : WP (MX3_pileNow g) Q (63, [l0, l1, l2, l3, l4, l5, l6], .int a :: .ref p :: st, w, k, n) = gl (rd g w p) 0 fun N f => vp_in a N ∧ WP (MX3_pileNow g) Q (64, [l0, l1, l2, l3, l4, l5, l6], .long (f a.toNatClampNeg) :: st, w, k, n) := Eq.trans (WP_at (M := (MX3_pileNow g)) rfl dX3_pileNow_63 (Or.inr rfl)) rfl
theorem eX3_pileNow_64 : WP (MX3_pileNow g) Q (64, [l0, l1, l2, l3, l4, l5, l6], st, w, k, n) = WP (MX3_pileNow g) Q (65, [l0, l1, l2, l3, l4, l5, l6], .int 1 :: st, w, k, n) := iconst_e rfl dX3_pileNow_64 (by decide)
theorem eX3_pileNow_65R {z0 : Nat} {z1 : Int64} {z2 : Int32} : WP (MX3_pileNow g) Q (65, [l0, l1, l2, l3, l4, l5, l6], .int z2 :: .long z1 :: .ref z0 :: st, w, k, n) = (wt st ≤ 8 ∧ k + 0 ≤ 12 ∧ n + 0 ≤ 72 ∧ WP (MX3_valid g) (kx (fun v w' => WP (MX3_pileNow g) Q (68, [l0, l1, l2, l3, l4, l5, l6], v.toList ++ st, w', k + 0, n + 0)) (fun E w' => Q (.inr E) w')) (0, [some (.ref z0), some (.long z1), none, some (.int z2)], [], w, 0, 0)) := csS (M := (MX3_pileNow g)) (mc := (fun _ _ => 0)) (ms := (fun _ _ => 0)) (As := [.ref z0, .long z1, .int z2]) (rest := st) (MX3_valid g) rfl rfl dX3_pileNow_65 (Nat.ne_of_beq_eq_false rfl) (by exact fun h => nomatch (show (none : Option Nat) = some 12 from h)) (by exact fun h => nomatch (show (none : Option Nat) = some 13 from h)) (by exact fun h => nomatch (show (none : Option Nat) = some 14 from h)) rfl rfl (by decide) (Nat.le_of_ble_eq_true rfl) (Nat.le_of_ble_eq_true rfl) rfl
theorem eX3_pileNow_65N {z1 : Int64} {z2 : Int32} : WP (MX3_pileNow g) Q (65, [l0, l1, l2, l3, l4, l5, l6], .int z2 :: .long z1 :: .null :: st, w, k, n) = (wt st ≤ 8 ∧ k + 0 ≤ 12 ∧ n + 0 ≤ 72 ∧ WP (MX3_valid g) (kx (fun v w' => WP (MX3_pileNow g) Q (68, [l0, l1, l2, l3, l4, l5, l6], v.toList ++ st, w', k + 0, n + 0)) (fun E w' => Q (.inr E) w')) (0, [some .null, some (.long z1), none, some (.int z2)], [], w, 0, 0)) := csS (M := (MX3_pileNow g)) (mc := (fun _ _ => 0)) (ms := (fun _ _ => 0)) (As := [.null, .long z1, .int z2]) (rest := st) (MX3_valid g) rfl rfl dX3_pileNow_65 (Nat.ne_of_beq_eq_false rfl) (by exact fun h => nomatch (show (none : Option Nat) = some 12 from h)) (by exact fun h => nomatch (show (none : Option Nat) = some 13 from h)) (by exact fun h => nomatch (show (none : Option Nat) = some 14 from h)) rfl rfl (by decide) (Nat.le_of_ble_eq_true rfl) (Nat.le_of_ble_eq_true rfl) rfl
theorem eX3_pileNow_68 : WP (MX3_pileNow g) Q (68, [l0, l1, l2, l3, l4, l5, l6], .int b :: .int a :: .ref p :: st, w, k, n) = gb (w p) fun t N f => vp_in a N ∧ WP (MX3_pileNow g) Q (69, [l0, l1, l2, l3, l4, l5, l6], st, upw w p (.inl (t, N, .inl (upd f a.toNatClampNeg (vp_nar (bty t) b)))), k, n) := Eq.trans (WP_at (M := (MX3_pileNow g)) rfl dX3_pileNow_68 (Or.inr rfl)) rfl
theorem eX3_pileNow_69 : WP (MX3_pileNow g) Q (69, [l0, l1, l2, l3, l4, l5, l6], .int a :: st, w, k, n) = WP (MX3_pileNow g) Q (70, [l0, l1, l2, l3, l4, l5, l6], .int a :: .int a :: st, w, k, n) := by rw [WP_at (M := (MX3_pileNow g)) rfl dX3_pileNow_69 (Or.inr rfl)]; exact and_t rfl
theorem eX3_pileNow_69R : WP (MX3_pileNow g) Q (69, [l0, l1, l2, l3, l4, l5, l6], .ref p :: st, w, k, n) = WP (MX3_pileNow g) Q (70, [l0, l1, l2, l3, l4, l5, l6], .ref p :: .ref p :: st, w, k, n) := by rw [WP_at (M := (MX3_pileNow g)) rfl dX3_pileNow_69 (Or.inr rfl)]; exact and_t rfl
theorem eX3_pileNow_70 : WP (MX3_pileNow g) Q (70, [l0, l1, l2, l3, l4, l5, l6], st, w, k, n) = WP (MX3_pileNow g) Q (71, [l0, l1, l2, l3, l4, l5, l6], .int 3 :: st, w, k, n) := iconst_e rfl dX3_pileNow_70 (by decide)
theorem eX3_pileNow_71 : WP (MX3_pileNow g) Q (71, [l0, l1, l2, l3, l4, some (.ref p), l6], st, w, k, n) = WP (MX3_pileNow g) Q (73, [l0, l1, l2, l3, l4, some (.ref p), l6], .ref p :: st, w, k, n) := Eq.trans (WP_at (M := (MX3_pileNow g)) rfl dX3_pileNow_71 (Or.inr rfl)) rfl
theorem eX3_pileNow_71N : WP (MX3_pileNow g) Q (71, [l0, l1, l2, l3, l4, some .null, l6], st, w, k, n) = WP (MX3_pileNow g) Q (73, [l0, l1, l2, l3, l4, some .null, l6], .null :: st, w, k, n) := Eq.trans (WP_at (M := (MX3_pileNow g)) rfl dX3_pileNow_71 (Or.inr rfl)) rfl
theorem eX3_pileNow_73R {z0 : Nat} : WP (MX3_pileNow g) Q (73, [l0, l1, l2, l3, l4, l5, l6], .ref z0 :: st, w, k, n) = (wt st ≤ 8 ∧ k + 0 ≤ 12 ∧ n + 0 ≤ 72 ∧ WP (MX3_fixed g) (kx (fun v w' => WP (MX3_pileNow g) Q (76, [l0, l1, l2, l3, l4, l5, l6], v.toList ++ st, w', k + 0, n + 0)) (fun E w' => Q (.inr E) w')) (0, [some (.ref z0)], [], w, 0, 0)) := csS (M := (MX3_pileNow g)) (mc := (fun _ _ => 0)) (ms := (fun _ _ => 0)) (As := [.ref z0]) (rest := st) (MX3_fixed g) rfl rfl dX3_pileNow_73 (Nat.ne_of_beq_eq_false rfl) (by exact fun h => nomatch (show (none : Option Nat) = some 12 from h)) (by exact fun h => nomatch (show (none : Option Nat) = some 13 from h)) (by exact fun h => nomatch (show (none : Option Nat) = some 14 from h)) rfl rfl (by decide) (Nat.le_of_ble_eq_true rfl) (Nat.le_of_ble_eq_true rfl) rfl
theorem eX3_pileNow_73N  : WP (MX3_pileNow g) Q (73, [l0, l1, l2, l3, l4, l5, l6], .null :: st, w, k, n) = (wt st ≤ 8 ∧ k + 0 ≤ 12 ∧ n + 0 ≤ 72 ∧ WP (MX3_fixed g) (kx (fun v w' => WP (MX3_pileNow g) Q (76, [l0, l1, l2, l3, l4, l5, l6], v.toList ++ st, w', k + 0, n + 0)) (fun E w' => Q (.inr E) w')) (0, [some .null], [], w, 0, 0)) := csS (M := (MX3_pileNow g)) (mc := (fun _ _ => 0)) (ms := (fun _ _ => 0)) (As := [.null]) (rest := st) (MX3_fixed g) rfl rfl dX3_pileNow_73 (Nat.ne_of_beq_eq_false rfl) (by exact fun h => nomatch (show (none : Option Nat) = some 12 from h)) (by exact fun h => nomatch (show (none : Option Nat) = some 13 from h)) (by exact fun h => nomatch (show (none : Option Nat) = some 14 from h)) rfl rfl (by decide) (Nat.le_of_ble_eq_true rfl) (Nat.le_of_ble_eq_true rfl) rfl
theorem eX3_pileNow_76 : WP (MX3_pileNow g) Q (76, [l0, l1, l2, l3, l4, l5, l6], .int b :: .int a :: .ref p :: st, w, k, n) = gb (w p) fun t N f => vp_in a N ∧ WP (MX3_pileNow g) Q (77, [l0, l1, l2, l3, l4, l5, l6], st, upw w p (.inl (t, N, .inl (upd f a.toNatClampNeg (vp_nar (bty t) b)))), k, n) := Eq.trans (WP_at (M := (MX3_pileNow g)) rfl dX3_pileNow_76 (Or.inr rfl)) rfl
theorem eX3_pileNow_77 : WP (MX3_pileNow g) Q (77, [l0, l1, l2, l3, l4, l5, l6], .int a :: st, w, k, n) = WP (MX3_pileNow g) Q (78, [l0, l1, l2, l3, l4, l5, l6], .int a :: .int a :: st, w, k, n) := by rw [WP_at (M := (MX3_pileNow g)) rfl dX3_pileNow_77 (Or.inr rfl)]; exact and_t rfl
theorem eX3_pileNow_77R : WP (MX3_pileNow g) Q (77, [l0, l1, l2, l3, l4, l5, l6], .ref p :: st, w, k, n) = WP (MX3_pileNow g) Q (78, [l0, l1, l2, l3, l4, l5, l6], .ref p :: .ref p :: st, w, k, n) := by rw [WP_at (M := (MX3_pileNow g)) rfl dX3_pileNow_77 (Or.inr rfl)]; exact and_t rfl
theorem eX3_pileNow_78 : WP (MX3_pileNow g) Q (78, [l0, l1, l2, l3, l4, l5, l6], st, w, k, n) = WP (MX3_pileNow g) Q (79, [l0, l1, l2, l3, l4, l5, l6], .int 4 :: st, w, k, n) := iconst_e rfl dX3_pileNow_78 (by decide)
theorem eX3_pileNow_79 : WP (MX3_pileNow g) Q (79, [l0, l1, l2, l3, l4, some (.ref p), l6], st, w, k, n) = WP (MX3_pileNow g) Q (81, [l0, l1, l2, l3, l4, some (.ref p), l6], .ref p :: st, w, k, n) := Eq.trans (WP_at (M := (MX3_pileNow g)) rfl dX3_pileNow_79 (Or.inr rfl)) rfl
theorem eX3_pileNow_79N : WP (MX3_pileNow g) Q (79, [l0, l1, l2, l3, l4, some .null, l6], st, w, k, n) = WP (MX3_pileNow g) Q (81, [l0, l1, l2, l3, l4, some .null, l6], .null :: st, w, k, n) := Eq.trans (WP_at (M := (MX3_pileNow g)) rfl dX3_pileNow_79 (Or.inr rfl)) rfl
theorem eX3_pileNow_81R {z0 : Nat} : WP (MX3_pileNow g) Q (81, [l0, l1, l2, l3, l4, l5, l6], .ref z0 :: st, w, k, n) = (wt st ≤ 8 ∧ k + 0 ≤ 12 ∧ n + 0 ≤ 72 ∧ WP (MX3_small g) (kx (fun v w' => WP (MX3_pileNow g) Q (84, [l0, l1, l2, l3, l4, l5, l6], v.toList ++ st, w', k + 0, n + 0)) (fun E w' => Q (.inr E) w')) (0, [some (.ref z0)], [], w, 0, 0)) := csS (M := (MX3_pileNow g)) (mc := (fun _ _ => 0)) (ms := (fun _ _ => 0)) (As := [.ref z0]) (rest := st) (MX3_small g) rfl rfl dX3_pileNow_81 (Nat.ne_of_beq_eq_false rfl) (by exact fun h => nomatch (show (none : Option Nat) = some 12 from h)) (by exact fun h => nomatch (show (none : Option Nat) = some 13 from h)) (by exact fun h => nomatch (show (none : Option Nat) = some 14 from h)) rfl rfl (by decide) (Nat.le_of_ble_eq_true rfl) (Nat.le_of_ble_eq_true rfl) rfl
theorem eX3_pileNow_81N  : WP (MX3_pileNow g) Q (81, [l0, l1, l2, l3, l4, l5, l6], .null :: st, w, k, n) = (wt st ≤ 8 ∧ k + 0 ≤ 12 ∧ n + 0 ≤ 72 ∧ WP (MX3_small g) (kx (fun v w' => WP (MX3_pileNow g) Q (84, [l0, l1, l2, l3, l4, l5, l6], v.toList ++ st, w', k + 0, n + 0)) (fun E w' => Q (.inr E) w')) (0, [some .null], [], w, 0, 0)) := csS (M := (MX3_pileNow g)) (mc := (fun _ _ => 0)) (ms := (fun _ _ => 0)) (As := [.null]) (rest := st) (MX3_small g) rfl rfl dX3_pileNow_81 (Nat.ne_of_beq_eq_false rfl) (by exact fun h => nomatch (show (none : Option Nat) = some 12 from h)) (by exact fun h => nomatch (show (none : Option Nat) = some 13 from h)) (by exact fun h => nomatch (show (none : Option Nat) = some 14 from h)) rfl rfl (by decide) (Nat.le_of_ble_eq_true rfl) (Nat.le_of_ble_eq_true rfl) rfl
theorem eX3_pileNow_84 : WP (MX3_pileNow g) Q (84, [l0, l1, l2, l3, l4, l5, l6], .int b :: .int a :: .ref p :: st, w, k, n) = gb (w p) fun t N f => vp_in a N ∧ WP (MX3_pileNow g) Q (85, [l0, l1, l2, l3, l4, l5, l6], st, upw w p (.inl (t, N, .inl (upd f a.toNatClampNeg (vp_nar (bty t) b)))), k, n) := Eq.trans (WP_at (M := (MX3_pileNow g)) rfl dX3_pileNow_84 (Or.inr rfl)) rfl
theorem eX3_pileNow_85 : WP (MX3_pileNow g) Q (85, [l0, l1, l2, l3, l4, l5, l6], .int a :: st, w, k, n) = WP (MX3_pileNow g) Q (86, [l0, l1, l2, l3, l4, l5, l6], .int a :: .int a :: st, w, k, n) := by rw [WP_at (M := (MX3_pileNow g)) rfl dX3_pileNow_85 (Or.inr rfl)]; exact and_t rfl
theorem eX3_pileNow_85R : WP (MX3_pileNow g) Q (85, [l0, l1, l2, l3, l4, l5, l6], .ref p :: st, w, k, n) = WP (MX3_pileNow g) Q (86, [l0, l1, l2, l3, l4, l5, l6], .ref p :: .ref p :: st, w, k, n) := by rw [WP_at (M := (MX3_pileNow g)) rfl dX3_pileNow_85 (Or.inr rfl)]; exact and_t rfl
theorem eX3_pileNow_86 : WP (MX3_pileNow g) Q (86, [l0, l1, l2, l3, l4, l5, l6], st, w, k, n) = WP (MX3_pileNow g) Q (87, [l0, l1, l2, l3, l4, l5, l6], .int 5 :: st, w, k, n) := iconst_e rfl dX3_pileNow_86 (by decide)
theorem eX3_pileNow_87 : WP (MX3_pileNow g) Q (87, [some (.ref p), l1, l2, l3, l4, l5, l6], st, w, k, n) = WP (MX3_pileNow g) Q (88, [some (.ref p), l1, l2, l3, l4, l5, l6], .ref p :: st, w, k, n) := Eq.trans (WP_at (M := (MX3_pileNow g)) rfl dX3_pileNow_87 (Or.inr rfl)) rfl
theorem eX3_pileNow_87N : WP (MX3_pileNow g) Q (87, [some .null, l1, l2, l3, l4, l5, l6], st, w, k, n) = WP (MX3_pileNow g) Q (88, [some .null, l1, l2, l3, l4, l5, l6], .null :: st, w, k, n) := Eq.trans (WP_at (M := (MX3_pileNow g)) rfl dX3_pileNow_87 (Or.inr rfl)) rfl
theorem eX3_pileNow_88 : WP (MX3_pileNow g) Q (88, [l0, l1, l2, l3, some (.int a), l5, l6], st, w, k, n) = WP (MX3_pileNow g) Q (90, [l0, l1, l2, l3, some (.int a), l5, l6], .int a :: st, w, k, n) := Eq.trans (WP_at (M := (MX3_pileNow g)) rfl dX3_pileNow_88 (Or.inr rfl)) rfl
theorem eX3_pileNow_90 {z0 : Int32} : WP (MX3_pileNow g) Q (90, [l0, l1, l2, l3, l4, l5, l6], .int z0 :: .ref p :: st, w, k, n) = (go (rd g w p) 7 (fun _ => True) ∧ wt st ≤ 8 ∧ k + 0 ≤ 12 ∧ n + 0 ≤ 72 ∧ WP (MX3_isAhead g) (kx (fun v w' => WP (MX3_pileNow g) Q (93, [l0, l1, l2, l3, l4, l5, l6], v.toList ++ st, w', k + 0, n + 0)) (fun E w' => Q (.inr E) w')) (0, [some (.ref p), some (.int z0), none, none], [], w, 0, 0)) := csV (M := (MX3_pileNow g)) (mc := (fun _ _ => 0)) (ms := (fun _ _ => 0)) (As := [.int z0]) (rest := st) (MX3_isAhead g) rfl rfl dX3_pileNow_90 (by exact fun h => nomatch (show (none : Option Nat) = some 11 from h)) (by exact fun h => nomatch (show (none : Option Nat) = some 15 from h)) rfl rfl (by decide) (Nat.le_of_ble_eq_true rfl) (Nat.le_of_ble_eq_true rfl) rfl
theorem eX3_pileNow_93 : WP (MX3_pileNow g) Q (93, [l0, l1, l2, l3, l4, l5, l6], .int b :: .int a :: .ref p :: st, w, k, n) = gb (w p) fun t N f => vp_in a N ∧ WP (MX3_pileNow g) Q (94, [l0, l1, l2, l3, l4, l5, l6], st, upw w p (.inl (t, N, .inl (upd f a.toNatClampNeg (vp_nar (bty t) b)))), k, n) := Eq.trans (WP_at (M := (MX3_pileNow g)) rfl dX3_pileNow_93 (Or.inr rfl)) rfl
theorem eX3_pileNow_94 : WP (MX3_pileNow g) Q (94, [l0, l1, l2, l3, l4, l5, l6], .ref p :: st, w, k, n) = WP (MX3_pileNow g) Q (96, [l0, l1, l2, l3, l4, nl l5, some (.ref p)], st, w, k, n) := by rw [WP_at (M := (MX3_pileNow g)) rfl dX3_pileNow_94 (Or.inr rfl)]; exact and_t (Nat.le_of_ble_eq_true rfl)
theorem eX3_pileNow_94N : WP (MX3_pileNow g) Q (94, [l0, l1, l2, l3, l4, l5, l6], .null :: st, w, k, n) = WP (MX3_pileNow g) Q (96, [l0, l1, l2, l3, l4, nl l5, some (.null)], st, w, k, n) := by rw [WP_at (M := (MX3_pileNow g)) rfl dX3_pileNow_94 (Or.inr rfl)]; exact and_t (Nat.le_of_ble_eq_true rfl)
theorem eX3_pileNow_96 : WP (MX3_pileNow g) Q (96, [l0, l1, l2, some (.int a), l4, l5, l6], st, w, k, n) = WP (MX3_pileNow g) Q (97, [l0, l1, l2, some (.int a), l4, l5, l6], .int a :: st, w, k, n) := Eq.trans (WP_at (M := (MX3_pileNow g)) rfl dX3_pileNow_96 (Or.inr rfl)) rfl
theorem eX3_pileNow_97 : WP (MX3_pileNow g) Q (97, [l0, l1, l2, l3, l4, l5, some (.ref p)], st, w, k, n) = WP (MX3_pileNow g) Q (99, [l0, l1, l2, l3, l4, l5, some (.ref p)], .ref p :: st, w, k, n) := Eq.trans (WP_at (M := (MX3_pileNow g)) rfl dX3_pileNow_97 (Or.inr rfl)) rfl
theorem eX3_pileNow_97N : WP (MX3_pileNow g) Q (97, [l0, l1, l2, l3, l4, l5, some .null], st, w, k, n) = WP (MX3_pileNow g) Q (99, [l0, l1, l2, l3, l4, l5, some .null], .null :: st, w, k, n) := Eq.trans (WP_at (M := (MX3_pileNow g)) rfl dX3_pileNow_97 (Or.inr rfl)) rfl
theorem eX3_pileNow_99 : WP (MX3_pileNow g) Q (99, [l0, l1, some (.int a), l3, l4, l5, l6], st, w, k, n) = WP (MX3_pileNow g) Q (100, [l0, l1, some (.int a), l3, l4, l5, l6], .int a :: st, w, k, n) := Eq.trans (WP_at (M := (MX3_pileNow g)) rfl dX3_pileNow_99 (Or.inr rfl)) rfl
theorem eX3_pileNow_100 : WP (MX3_pileNow g) Q (100, [l0, l1, l2, l3, l4, l5, l6], .int a :: .ref p :: st, w, k, n) = gb (rd g w p) fun _ N f => vp_in a N ∧ WP (MX3_pileNow g) Q (101, [l0, l1, l2, l3, l4, l5, l6], .int (f a.toNatClampNeg) :: st, w, k, n) := Eq.trans (WP_at (M := (MX3_pileNow g)) rfl dX3_pileNow_100 (Or.inr rfl)) rfl
theorem eX3_pileNow_101 {z0 : Int32} : WP (MX3_pileNow g) Q (101, [l0, l1, l2, l3, l4, l5, l6], .int z0 :: st, w, k, n) = (wt st ≤ 8 ∧ k + 0 ≤ 12 ∧ n + 0 ≤ 72 ∧ WP (MX3_one g) (kx (fun v w' => WP (MX3_pileNow g) Q (104, [l0, l1, l2, l3, l4, l5, l6], v.toList ++ st, w', k + 0, n + 0)) (fun E w' => Q (.inr E) w')) (0, [some (.int z0)], [], w, 0, 0)) := csS (M := (MX3_pileNow g)) (mc := (fun _ _ => 0)) (ms := (fun _ _ => 0)) (As := [.int z0]) (rest := st) (MX3_one g) rfl rfl dX3_pileNow_101 (Nat.ne_of_beq_eq_false rfl) (by exact fun h => nomatch (show (none : Option Nat) = some 12 from h)) (by exact fun h => nomatch (show (none : Option Nat) = some 13 from h)) (by exact fun h => nomatch (show (none : Option Nat) = some 14 from h)) rfl rfl (by decide) (Nat.le_of_ble_eq_true rfl) (Nat.le_of_ble_eq_true rfl) rfl
theorem eX3_pileNow_104 : WP (MX3_pileNow g) Q (104, [l0, l1, l2, l3, l4, l5, l6], .int b :: .int a :: st, w, k, n) = WP (MX3_pileNow g) Q (105, [l0, l1, l2, l3, l4, l5, l6], .int (a + b) :: st, w, k, n) := Eq.trans (WP_at (M := (MX3_pileNow g)) rfl dX3_pileNow_104 (Or.inr rfl)) rfl
theorem eX3_pileNow_105 : WP (MX3_pileNow g) Q (105, [l0, l1, l2, l3, l4, l5, l6], .int a :: st, w, k, n) = WP (MX3_pileNow g) Q (106, [l0, l1, nl l2, some (.int a), l4, l5, l6], st, w, k, n) := by rw [WP_at (M := (MX3_pileNow g)) rfl dX3_pileNow_105 (Or.inr rfl)]; exact and_t (Nat.le_of_ble_eq_true rfl)
theorem eX3_pileNow_106 : WP (MX3_pileNow g) Q (106, [l0, l1, l2, l3, some (.int a), l5, l6], st, w, k, n) = WP (MX3_pileNow g) Q (109, [l0, l1, l2, nl l3, some (.int (a + 1)), l5, l6], st, w, k, n) := Eq.trans (iinc_e (M := (MX3_pileNow g)) (L := [l0, l1, l2, l3, some (.int a), l5, l6]) (d := 1) rfl dX3_pileNow_106 (by decide) rfl) rfl
theorem eX3_pileNow_109 : WP (MX3_pileNow g) Q (109, [l0, l1, l2, l3, l4, l5, l6], st, w, k, n) = WP (MX3_pileNow g) Q (5, [l0, l1, l2, l3, l4, l5, l6], st, w, k, n) := goto_e rfl dX3_pileNow_109 (by decide)
theorem eX3_pileNow_112 : WP (MX3_pileNow g) Q (112, [l0, l1, l2, some (.int a), l4, l5, l6], st, w, k, n) = WP (MX3_pileNow g) Q (113, [l0, l1, l2, some (.int a), l4, l5, l6], .int a :: st, w, k, n) := Eq.trans (WP_at (M := (MX3_pileNow g)) rfl dX3_pileNow_112 (Or.inr rfl)) rfl
set_option maxRecDepth 20000 in
theorem eX3_pileNow_113 : WP (MX3_pileNow g) Q (113, [l0, l1, l2, l3, l4, l5, l6], [.int a], w, k, n) = (k ≤ 12 ∧ n ≤ 72 ∧ Q (.inl (some (.int a))) w) := iretI_e rfl dX3_pileNow_113 rfl
end
theorem wk_1643 : (.code yX3_isAhead cX3_isAhead 4 (some .boolean) : Jvm.Cond) ∈ WS := WS_t7 145 rfl rfl
theorem wk_1640 : (.methodLink RX3 204 yX3_isAhead : Jvm.Cond) ∈ WS := WS_t7 142 rfl rfl
theorem wk_1642 : (.instanceMethod yX3_isAhead : Jvm.Cond) ∈ WS := WS_t7 144 rfl rfl
theorem wk_56 : (.selects RX3 yX3_isAhead yX3_isAhead : Jvm.Cond) ∈ WS := WS_at 56 (by decide +kernel) rfl
theorem vMX3_pileNow {l : Launch} (hl : l.stackTraces = false) (G : GT) : vM l G (MX3_pileNow (gg G)) := ⟨fun i c j h => lookup_all (l := (MX3_pileNow (gg G)).fld) (P := fun i e => vFld RX3 i e.1 e.2) (all_c (vF_RX3_20) (all_c (vF_RX3_9) (all_n))) i (c, j) h, fun i c fs h => lookup_all (l := (MX3_pileNow (gg G)).new) (P := fun i e => vNew RX3 i e.1 e.2) (all_n) i (c, fs) h, lookup_all (l := (MX3_pileNow (gg G)).anew) (P := fun i e => vANew RX3 i e) (all_n), lookup_all (l := (MX3_pileNow (gg G)).lng) (P := fun i e => Jvm.Cond.constantLong RX3 i e ∈ WS) (all_n), lookup_all (l := (MX3_pileNow (gg G)).thr) (P := fun i e => vThr RX3 cX3_pileNow i e) (all_n), fun h => absurd rfl h, lookup_all (l := (MX3_pileNow (gg G)).cal) (P := fun i e => vCal l G RX3 i e) (all_c (⟨cJx4a65c_size_8abf5, 1, some .int, fun y hy => by subst hy; exact ⟨by decide, ⟨_, wk_1523, okJx4a65c_size_8abf5 hl, Or.inl ⟨Nat.ne_of_beq_eq_false rfl, rfl⟩⟩, wk_63, ⟨(by decide : yJx4a65c_size_8abf5.cls ≠ "java/lang/invoke/MethodHandle"), (by decide : yJx4a65c_size_8abf5.cls ≠ "java/lang/invoke/VarHandle")⟩, ⟨(by decide +kernel : (parseMethodDescriptor yJx4a65c_size_8abf5.desc).map (fun d => d.parameters.length + 1) = some 1), wk_1520, wk_1521, wk_1522, (RJx4a65c, TJx4a65c, 3), rfl, rfl⟩⟩⟩) (all_c (⟨cJx4a65c_get_915e3, 2, some (.object "java/lang/Object"), fun y hy => by subst hy; exact ⟨by decide, ⟨_, wk_1379, okJx4a65c_get_915e3 hl, Or.inl ⟨Nat.ne_of_beq_eq_false rfl, rfl⟩⟩, wk_63, ⟨(by decide : yJx4a65c_get_915e3.cls ≠ "java/lang/invoke/MethodHandle"), (by decide : yJx4a65c_get_915e3.cls ≠ "java/lang/invoke/VarHandle")⟩, ⟨(by decide +kernel : (parseMethodDescriptor yJx4a65c_get_915e3.desc).map (fun d => d.parameters.length + 1) = some 2), wk_1376, wk_1377, wk_1378, (RJx4a65c, TJx4a65c, 3), rfl, rfl⟩⟩⟩) (all_c (⟨cX3_valid, 4, some .boolean, fun y hy => by subst hy; exact ⟨by decide, ⟨_, wk_1461, okX3_valid hl, Or.inl ⟨Nat.ne_of_beq_eq_false rfl, rfl⟩⟩, wk_60, ⟨(by decide : yX3_valid.cls ≠ "java/lang/invoke/MethodHandle"), (by decide : yX3_valid.cls ≠ "java/lang/invoke/VarHandle")⟩, ⟨(by decide +kernel : (parseMethodDescriptor yX3_valid.desc).map (fun d => d.parameters.length) = some 3), wk_1459, wk_1460⟩⟩⟩) (all_c (⟨cX3_fixed, 1, some .boolean, fun y hy => by subst hy; exact ⟨by decide, ⟨_, wk_1394, okX3_fixed hl, Or.inl ⟨Nat.ne_of_beq_eq_false rfl, rfl⟩⟩, wk_60, ⟨(by decide : yX3_fixed.cls ≠ "java/lang/invoke/MethodHandle"), (by decide : yX3_fixed.cls ≠ "java/lang/invoke/VarHandle")⟩, ⟨(by decide +kernel : (parseMethodDescriptor yX3_fixed.desc).map (fun d => d.parameters.length) = some 1), wk_1392, wk_1393⟩⟩⟩) (all_c (⟨cX3_small, 1, some .boolean, fun y hy => by subst hy; exact ⟨by decide, ⟨_, wk_1429, okX3_small hl, Or.inl ⟨Nat.ne_of_beq_eq_false rfl, rfl⟩⟩, wk_60, ⟨(by decide : yX3_small.cls ≠ "java/lang/invoke/MethodHandle"), (by decide : yX3_small.cls ≠ "java/lang/invoke/VarHandle")⟩, ⟨(by decide +kernel : (parseMethodDescriptor yX3_small.desc).map (fun d => d.parameters.length) = some 1), wk_1427, wk_1428⟩⟩⟩) (all_c (⟨cX3_isAhead, 4, some .boolean, fun y hy => by subst hy; exact ⟨by decide, ⟨_, wk_1643, okX3_isAhead hl, Or.inl ⟨Nat.ne_of_beq_eq_false rfl, rfl⟩⟩, wk_60, ⟨(by decide : yX3_isAhead.cls ≠ "java/lang/invoke/MethodHandle"), (by decide : yX3_isAhead.cls ≠ "java/lang/invoke/VarHandle")⟩, ⟨(by decide +kernel : (parseMethodDescriptor yX3_isAhead.desc).map (fun d => d.parameters.length + 1) = some 2), wk_1640, wk_1642, wk_56, (RX3, TX3, 7), rfl, rfl⟩⟩⟩) (all_c (⟨cX3_one, 1, some .int, fun y hy => by subst hy; exact ⟨by decide, ⟨_, wk_1313, okX3_one hl, Or.inl ⟨Nat.ne_of_beq_eq_false rfl, rfl⟩⟩, wk_60, ⟨(by decide : yX3_one.cls ≠ "java/lang/invoke/MethodHandle"), (by decide : yX3_one.cls ≠ "java/lang/invoke/VarHandle")⟩, ⟨(by decide +kernel : (parseMethodDescriptor yX3_one.desc).map (fun d => d.parameters.length) = some 1), wk_1311, wk_1312⟩⟩⟩) (all_n)))))))), lookup_all (l := (MX3_pileNow (gg G)).stt) (P := fun i e => vStt G RX3 i e) (all_n), lookup_all (l := (MX3_pileNow (gg G)).cst) (P := fun i e => vCst RX3 i e) (all_c (⟨.long, rfl, (fun C h => by cases h), wk_1380⟩) (all_n)), fun h => absurd rfl h, rfl, all_n⟩
theorem okX3_pileNow {l : Launch} (hl : l.stackTraces = false) {G : GT} : ∀ (args : List Value) (w : Hw) (S : Ot → Hw → Prop), spOf (MX3_pileNow (gg G)) args w S → CX l G yX3_pileNow (.code yX3_pileNow cX3_pileNow 7 (some .int)) 5 12 72 args w S := CX_sp (M := MX3_pileNow (gg G)) (y := yX3_pileNow) hl (by decide) rfl (vMX3_pileNow hl G) (fun h => by cases h) rfl
/-! RangecardModel.pile(II)I -/
theorem dX3_pile_0 : decode cX3_pile 0 = .ok (.aload_n 0, 1) := by decide +kernel
theorem dX3_pile_1 : decode cX3_pile 1 = .ok (.iload_n 1, 1) := by decide +kernel
theorem dX3_pile_2 : decode cX3_pile 2 = .ok (.invokestatic 50, 3) := by decide +kernel
theorem dX3_pile_5 : decode cX3_pile 5 = .ok (.iconst 1, 1) := by decide +kernel
theorem dX3_pile_6 : decode cX3_pile 6 = .ok (.invokevirtual 54, 3) := by decide +kernel
theorem dX3_pile_9 : decode cX3_pile 9 = .ok (.ifCond .ne 25, 3) := by decide +kernel
theorem dX3_pile_12 : decode cX3_pile 12 = .ok (.aload_n 0, 1) := by decide +kernel
theorem dX3_pile_13 : decode cX3_pile 13 = .ok (.iload_n 2, 1) := by decide +kernel
theorem dX3_pile_14 : decode cX3_pile 14 = .ok (.iconst 0, 1) := by decide +kernel
theorem dX3_pile_15 : decode cX3_pile 15 = .ok (.iconst 5, 1) := by decide +kernel
theorem dX3_pile_16 : decode cX3_pile 16 = .ok (.invokestatic 38, 3) := by decide +kernel
theorem dX3_pile_19 : decode cX3_pile 19 = .ok (.ifCond .ne 7, 3) := by decide +kernel
theorem dX3_pile_22 : decode cX3_pile 22 = .ok (.iconst 1, 1) := by decide +kernel
theorem dX3_pile_23 : decode cX3_pile 23 = .ok (.goto 4, 3) := by decide +kernel
theorem dX3_pile_26 : decode cX3_pile 26 = .ok (.iconst 0, 1) := by decide +kernel
theorem dX3_pile_27 : decode cX3_pile 27 = .ok (.iconst 2, 1) := by decide +kernel
theorem dX3_pile_28 : decode cX3_pile 28 = .ok (.invokevirtual 31, 3) := by decide +kernel
theorem dX3_pile_31 : decode cX3_pile 31 = .ok (.ifCond .eq 7, 3) := by decide +kernel
theorem dX3_pile_34 : decode cX3_pile 34 = .ok (.iconst 0, 1) := by decide +kernel
theorem dX3_pile_35 : decode cX3_pile 35 = .ok (.goto 9, 3) := by decide +kernel
theorem dX3_pile_38 : decode cX3_pile 38 = .ok (.aload_n 0, 1) := by decide +kernel
theorem dX3_pile_39 : decode cX3_pile 39 = .ok (.iload_n 1, 1) := by decide +kernel
theorem dX3_pile_40 : decode cX3_pile 40 = .ok (.iload_n 2, 1) := by decide +kernel
theorem dX3_pile_41 : decode cX3_pile 41 = .ok (.invokevirtual 207, 3) := by decide +kernel
theorem dX3_pile_44 : decode cX3_pile 44 = .ok (.ireturn, 1) := by decide +kernel
def MX3_pile (g : RO) : MT := ((RX3, cX3_pile, 3, 6, 12, 72, false, some .int), [], [], [], [], [], 0, [(50, 0, 1, 0, 2, (fun _ _ => 0), (fun _ _ => 0), yX3_isNoNumber, spOf (MX3_isNoNumber g)), (54, 2, 3, 7, 2, (fun _ _ => 0), (fun _ _ => 0), yX3_start, spOf (MX3_start g)), (38, 0, 3, 0, 1, (fun _ _ => 0), (fun _ _ => 0), yX3_isIn, spOf (MX3_isIn g)), (31, 2, 3, 7, 1, (fun _ _ => 0), (fun _ _ => 0), yX3_refuse, spOf (MX3_refuse g)), (207, 2, 3, 7, 5, (fun _ _ => 12), (fun _ _ => 72), yX3_pileNow, spOf (MX3_pileNow g))], [], [], 0, [], [], g)
section
variable {g : RO} {Q : Ot → Hw → Prop} {st : List Value} {w : Hw} {k n p q : Nat} {a b : Int32} {x y : Int64} {u v : Value} {l0 l1 l2 : Option Value}
theorem eX3_pile_0 : WP (MX3_pile g) Q (0, [some (.ref p), l1, l2], st, w, k, n) = WP (MX3_pile g) Q (1, [some (.ref p), l1, l2], .ref p :: st, w, k, n) := Eq.trans (WP_at (M := (MX3_pile g)) rfl dX3_pile_0 (Or.inr rfl)) rfl
theorem eX3_pile_0N : WP (MX3_pile g) Q (0, [some .null, l1, l2], st, w, k, n) = WP (MX3_pile g) Q (1, [some .null, l1, l2], .null :: st, w, k, n) := Eq.trans (WP_at (M := (MX3_pile g)) rfl dX3_pile_0 (Or.inr rfl)) rfl
theorem eX3_pile_1 : WP (MX3_pile g) Q (1, [l0, some (.int a), l2], st, w, k, n) = WP (MX3_pile g) Q (2, [l0, some (.int a), l2], .int a :: st, w, k, n) := Eq.trans (WP_at (M := (MX3_pile g)) rfl dX3_pile_1 (Or.inr rfl)) rfl
theorem eX3_pile_2 {z0 : Int32} : WP (MX3_pile g) Q (2, [l0, l1, l2], .int z0 :: st, w, k, n) = (wt st ≤ 8 ∧ k + 0 ≤ 12 ∧ n + 0 ≤ 72 ∧ WP (MX3_isNoNumber g) (kx (fun v w' => WP (MX3_pile g) Q (5, [l0, l1, l2], v.toList ++ st, w', k + 0, n + 0)) (fun E w' => Q (.inr E) w')) (0, [some (.int z0)], [], w, 0, 0)) := csS (M := (MX3_pile g)) (mc := (fun _ _ => 0)) (ms := (fun _ _ => 0)) (As := [.int z0]) (rest := st) (MX3_isNoNumber g) rfl rfl dX3_pile_2 (Nat.ne_of_beq_eq_false rfl) (by exact fun h => nomatch (show (none : Option Nat) = some 12 from h)) (by exact fun h => nomatch (show (none : Option Nat) = some 13 from h)) (by exact fun h => nomatch (show (none : Option Nat) = some 14 from h)) rfl rfl (by decide) (Nat.le_of_ble_eq_true rfl) (Nat.le_of_ble_eq_true rfl) rfl
theorem eX3_pile_5 : WP (MX3_pile g) Q (5, [l0, l1, l2], st, w, k, n) = WP (MX3_pile g) Q (6, [l0, l1, l2], .int 1 :: st, w, k, n) := iconst_e rfl dX3_pile_5 (by decide)
theorem eX3_pile_6 {z0 : Int32} {z1 : Int32} : WP (MX3_pile g) Q (6, [l0, l1, l2], .int z1 :: .int z0 :: .ref p :: st, w, k, n) = (go (rd g w p) 7 (fun _ => True) ∧ wt st ≤ 8 ∧ k + 0 ≤ 12 ∧ n + 0 ≤ 72 ∧ WP (MX3_start g) (kx (fun v w' => WP (MX3_pile g) Q (9, [l0, l1, l2], v.toList ++ st, w', k + 0, n + 0)) (fun E w' => Q (.inr E) w')) (0, [some (.ref p), some (.int z0), some (.int z1)], [], w, 0, 0)) := csV (M := (MX3_pile g)) (mc := (fun _ _ => 0)) (ms := (fun _ _ => 0)) (As := [.int z0, .int z1]) (rest := st) (MX3_start g) rfl rfl dX3_pile_6 (by exact fun h => nomatch (show (none : Option Nat) = some 11 from h)) (by exact fun h => nomatch (show (none : Option Nat) = some 15 from h)) rfl rfl (by decide) (Nat.le_of_ble_eq_true rfl) (Nat.le_of_ble_eq_true rfl) rfl
theorem eX3_pile_9 : WP (MX3_pile g) Q (9, [l0, l1, l2], .int a :: st, w, k, n) = if a = 0 then WP (MX3_pile g) Q (12, [l0, l1, l2], st, w, k, n) else WP (MX3_pile g) Q (34, [l0, l1, l2], st, w, k, n) := ifcn_e (a = 0) rfl dX3_pile_9 rfl (by decide)
theorem eX3_pile_12 : WP (MX3_pile g) Q (12, [some (.ref p), l1, l2], st, w, k, n) = WP (MX3_pile g) Q (13, [some (.ref p), l1, l2], .ref p :: st, w, k, n) := Eq.trans (WP_at (M := (MX3_pile g)) rfl dX3_pile_12 (Or.inr rfl)) rfl
theorem eX3_pile_12N : WP (MX3_pile g) Q (12, [some .null, l1, l2], st, w, k, n) = WP (MX3_pile g) Q (13, [some .null, l1, l2], .null :: st, w, k, n) := Eq.trans (WP_at (M := (MX3_pile g)) rfl dX3_pile_12 (Or.inr rfl)) rfl
theorem eX3_pile_13 : WP (MX3_pile g) Q (13, [l0, l1, some (.int a)], st, w, k, n) = WP (MX3_pile g) Q (14, [l0, l1, some (.int a)], .int a :: st, w, k, n) := Eq.trans (WP_at (M := (MX3_pile g)) rfl dX3_pile_13 (Or.inr rfl)) rfl
theorem eX3_pile_14 : WP (MX3_pile g) Q (14, [l0, l1, l2], st, w, k, n) = WP (MX3_pile g) Q (15, [l0, l1, l2], .int 0 :: st, w, k, n) := iconst_e rfl dX3_pile_14 (by decide)
theorem eX3_pile_15 : WP (MX3_pile g) Q (15, [l0, l1, l2], st, w, k, n) = WP (MX3_pile g) Q (16, [l0, l1, l2], .int 5 :: st, w, k, n) := iconst_e rfl dX3_pile_15 (by decide)
theorem eX3_pile_16 {z0 : Int32} {z1 : Int32} {z2 : Int32} : WP (MX3_pile g) Q (16, [l0, l1, l2], .int z2 :: .int z1 :: .int z0 :: st, w, k, n) = (wt st ≤ 8 ∧ k + 0 ≤ 12 ∧ n + 0 ≤ 72 ∧ WP (MX3_isIn g) (kx (fun v w' => WP (MX3_pile g) Q (19, [l0, l1, l2], v.toList ++ st, w', k + 0, n + 0)) (fun E w' => Q (.inr E) w')) (0, [some (.int z0), some (.int z1), some (.int z2)], [], w, 0, 0)) := csS (M := (MX3_pile g)) (mc := (fun _ _ => 0)) (ms := (fun _ _ => 0)) (As := [.int z0, .int z1, .int z2]) (rest := st) (MX3_isIn g) rfl rfl dX3_pile_16 (Nat.ne_of_beq_eq_false rfl) (by exact fun h => nomatch (show (none : Option Nat) = some 12 from h)) (by exact fun h => nomatch (show (none : Option Nat) = some 13 from h)) (by exact fun h => nomatch (show (none : Option Nat) = some 14 from h)) rfl rfl (by decide) (Nat.le_of_ble_eq_true rfl) (Nat.le_of_ble_eq_true rfl) rfl
theorem eX3_pile_19 : WP (MX3_pile g) Q (19, [l0, l1, l2], .int a :: st, w, k, n) = if a = 0 then WP (MX3_pile g) Q (22, [l0, l1, l2], st, w, k, n) else WP (MX3_pile g) Q (26, [l0, l1, l2], st, w, k, n) := ifcn_e (a = 0) rfl dX3_pile_19 rfl (by decide)
theorem eX3_pile_22 : WP (MX3_pile g) Q (22, [l0, l1, l2], st, w, k, n) = WP (MX3_pile g) Q (23, [l0, l1, l2], .int 1 :: st, w, k, n) := iconst_e rfl dX3_pile_22 (by decide)
theorem eX3_pile_23 : WP (MX3_pile g) Q (23, [l0, l1, l2], st, w, k, n) = WP (MX3_pile g) Q (27, [l0, l1, l2], st, w, k, n) := goto_e rfl dX3_pile_23 (by decide)
theorem eX3_pile_26 : WP (MX3_pile g) Q (26, [l0, l1, l2], st, w, k, n) = WP (MX3_pile g) Q (27, [l0, l1, l2], .int 0 :: st, w, k, n) := iconst_e rfl dX3_pile_26 (by decide)
theorem eX3_pile_27 : WP (MX3_pile g) Q (27, [l0, l1, l2], st, w, k, n) = WP (MX3_pile g) Q (28, [l0, l1, l2], .int 2 :: st, w, k, n) := iconst_e rfl dX3_pile_27 (by decide)
theorem eX3_pile_28 {z0 : Int32} {z1 : Int32} : WP (MX3_pile g) Q (28, [l0, l1, l2], .int z1 :: .int z0 :: .ref p :: st, w, k, n) = (go (rd g w p) 7 (fun _ => True) ∧ wt st ≤ 8 ∧ k + 0 ≤ 12 ∧ n + 0 ≤ 72 ∧ WP (MX3_refuse g) (kx (fun v w' => WP (MX3_pile g) Q (31, [l0, l1, l2], v.toList ++ st, w', k + 0, n + 0)) (fun E w' => Q (.inr E) w')) (0, [some (.ref p), some (.int z0), some (.int z1)], [], w, 0, 0)) := csV (M := (MX3_pile g)) (mc := (fun _ _ => 0)) (ms := (fun _ _ => 0)) (As := [.int z0, .int z1]) (rest := st) (MX3_refuse g) rfl rfl dX3_pile_28 (by exact fun h => nomatch (show (none : Option Nat) = some 11 from h)) (by exact fun h => nomatch (show (none : Option Nat) = some 15 from h)) rfl rfl (by decide) (Nat.le_of_ble_eq_true rfl) (Nat.le_of_ble_eq_true rfl) rfl
theorem eX3_pile_31 : WP (MX3_pile g) Q (31, [l0, l1, l2], .int a :: st, w, k, n) = if a = 0 then WP (MX3_pile g) Q (38, [l0, l1, l2], st, w, k, n) else WP (MX3_pile g) Q (34, [l0, l1, l2], st, w, k, n) := ifc_e (a = 0) rfl dX3_pile_31 rfl (by decide)
theorem eX3_pile_34 : WP (MX3_pile g) Q (34, [l0, l1, l2], st, w, k, n) = WP (MX3_pile g) Q (35, [l0, l1, l2], .int 0 :: st, w, k, n) := iconst_e rfl dX3_pile_34 (by decide)
theorem eX3_pile_35 : WP (MX3_pile g) Q (35, [l0, l1, l2], st, w, k, n) = WP (MX3_pile g) Q (44, [l0, l1, l2], st, w, k, n) := goto_e rfl dX3_pile_35 (by decide)
theorem eX3_pile_38 : WP (MX3_pile g) Q (38, [some (.ref p), l1, l2], st, w, k, n) = WP (MX3_pile g) Q (39, [some (.ref p), l1, l2], .ref p :: st, w, k, n) := Eq.trans (WP_at (M := (MX3_pile g)) rfl dX3_pile_38 (Or.inr rfl)) rfl
theorem eX3_pile_38N : WP (MX3_pile g) Q (38, [some .null, l1, l2], st, w, k, n) = WP (MX3_pile g) Q (39, [some .null, l1, l2], .null :: st, w, k, n) := Eq.trans (WP_at (M := (MX3_pile g)) rfl dX3_pile_38 (Or.inr rfl)) rfl
theorem eX3_pile_39 : WP (MX3_pile g) Q (39, [l0, some (.int a), l2], st, w, k, n) = WP (MX3_pile g) Q (40, [l0, some (.int a), l2], .int a :: st, w, k, n) := Eq.trans (WP_at (M := (MX3_pile g)) rfl dX3_pile_39 (Or.inr rfl)) rfl
theorem eX3_pile_40 : WP (MX3_pile g) Q (40, [l0, l1, some (.int a)], st, w, k, n) = WP (MX3_pile g) Q (41, [l0, l1, some (.int a)], .int a :: st, w, k, n) := Eq.trans (WP_at (M := (MX3_pile g)) rfl dX3_pile_40 (Or.inr rfl)) rfl
theorem eX3_pile_41 {z0 : Int32} {z1 : Int32} : WP (MX3_pile g) Q (41, [l0, l1, l2], .int z1 :: .int z0 :: .ref p :: st, w, k, n) = (go (rd g w p) 7 (fun _ => True) ∧ wt st ≤ 8 ∧ k + 12 ≤ 12 ∧ n + 72 ≤ 72 ∧ WP (MX3_pileNow g) (kx (fun v w' => WP (MX3_pile g) Q (44, [l0, l1, l2], v.toList ++ st, w', k + 12, n + 72)) (fun E w' => Q (.inr E) w')) (0, [some (.ref p), some (.int z0), some (.int z1), none, none, none, none], [], w, 0, 0)) := csV (M := (MX3_pile g)) (mc := (fun _ _ => 12)) (ms := (fun _ _ => 72)) (As := [.int z0, .int z1]) (rest := st) (MX3_pileNow g) rfl rfl dX3_pile_41 (by exact fun h => nomatch (show (none : Option Nat) = some 11 from h)) (by exact fun h => nomatch (show (none : Option Nat) = some 15 from h)) rfl rfl (by decide) (Nat.le_of_ble_eq_true rfl) (Nat.le_of_ble_eq_true rfl) rfl
set_option maxRecDepth 20000 in
theorem eX3_pile_44 : WP (MX3_pile g) Q (44, [l0, l1, l2], [.int a], w, k, n) = (k ≤ 12 ∧ n ≤ 72 ∧ Q (.inl (some (.int a))) w) := iretI_e rfl dX3_pile_44 rfl
end
theorem wk_1639 : (.code yX3_pileNow cX3_pileNow 7 (some .int) : Jvm.Cond) ∈ WS := WS_t7 141 rfl rfl
theorem wk_1636 : (.methodLink RX3 207 yX3_pileNow : Jvm.Cond) ∈ WS := WS_t7 138 rfl rfl
theorem wk_1638 : (.instanceMethod yX3_pileNow : Jvm.Cond) ∈ WS := WS_t7 140 rfl rfl
theorem wk_55 : (.selects RX3 yX3_pileNow yX3_pileNow : Jvm.Cond) ∈ WS := WS_at 55 (by decide +kernel) rfl
theorem vMX3_pile {l : Launch} (hl : l.stackTraces = false) (G : GT) : vM l G (MX3_pile (gg G)) := ⟨fun i c j h => lookup_all (l := (MX3_pile (gg G)).fld) (P := fun i e => vFld RX3 i e.1 e.2) (all_n) i (c, j) h, fun i c fs h => lookup_all (l := (MX3_pile (gg G)).new) (P := fun i e => vNew RX3 i e.1 e.2) (all_n) i (c, fs) h, lookup_all (l := (MX3_pile (gg G)).anew) (P := fun i e => vANew RX3 i e) (all_n), lookup_all (l := (MX3_pile (gg G)).lng) (P := fun i e => Jvm.Cond.constantLong RX3 i e ∈ WS) (all_n), lookup_all (l := (MX3_pile (gg G)).thr) (P := fun i e => vThr RX3 cX3_pile i e) (all_n), fun h => absurd rfl h, lookup_all (l := (MX3_pile (gg G)).cal) (P := fun i e => vCal l G RX3 i e) (all_c (⟨cX3_isNoNumber, 1, some .boolean, fun y hy => by subst hy; exact ⟨by decide, ⟨_, wk_1224, okX3_isNoNumber hl, Or.inl ⟨Nat.ne_of_beq_eq_false rfl, rfl⟩⟩, wk_60, ⟨(by decide : yX3_isNoNumber.cls ≠ "java/lang/invoke/MethodHandle"), (by decide : yX3_isNoNumber.cls ≠ "java/lang/invoke/VarHandle")⟩, ⟨(by decide +kernel : (parseMethodDescriptor yX3_isNoNumber.desc).map (fun d => d.parameters.length) = some 1), wk_1222, wk_1223⟩⟩⟩) (all_c (⟨cX3_start, 3, some .boolean, fun y hy => by subst hy; exact ⟨by decide, ⟨_, wk_1231, okX3_start hl, Or.inl ⟨Nat.ne_of_beq_eq_false rfl, rfl⟩⟩, wk_60, ⟨(by decide : yX3_start.cls ≠ "java/lang/invoke/MethodHandle"), (by decide : yX3_start.cls ≠ "java/lang/invoke/VarHandle")⟩, ⟨(by decide +kernel : (parseMethodDescriptor yX3_start.desc).map (fun d => d.parameters.length + 1) = some 3), wk_1228, wk_1230, wk_37, (RX3, TX3, 7), rfl, rfl⟩⟩⟩) (all_c (⟨cX3_isIn, 3, some .boolean, fun y hy => by subst hy; exact ⟨by decide, ⟨_, wk_1227, okX3_isIn hl, Or.inl ⟨Nat.ne_of_beq_eq_false rfl, rfl⟩⟩, wk_60, ⟨(by decide : yX3_isIn.cls ≠ "java/lang/invoke/MethodHandle"), (by decide : yX3_isIn.cls ≠ "java/lang/invoke/VarHandle")⟩, ⟨(by decide +kernel : (parseMethodDescriptor yX3_isIn.desc).map (fun d => d.parameters.length) = some 3), wk_1225, wk_1226⟩⟩⟩) (all_c (⟨cX3_refuse, 3, some .boolean, fun y hy => by subst hy; exact ⟨by decide, ⟨_, wk_1235, okX3_refuse hl, Or.inl ⟨Nat.ne_of_beq_eq_false rfl, rfl⟩⟩, wk_60, ⟨(by decide : yX3_refuse.cls ≠ "java/lang/invoke/MethodHandle"), (by decide : yX3_refuse.cls ≠ "java/lang/invoke/VarHandle")⟩, ⟨(by decide +kernel : (parseMethodDescriptor yX3_refuse.desc).map (fun d => d.parameters.length + 1) = some 3), wk_1232, wk_1234, wk_38, (RX3, TX3, 7), rfl, rfl⟩⟩⟩) (all_c (⟨cX3_pileNow, 7, some .int, fun y hy => by subst hy; exact ⟨by decide, ⟨_, wk_1639, okX3_pileNow hl, Or.inl ⟨Nat.ne_of_beq_eq_false rfl, rfl⟩⟩, wk_60, ⟨(by decide : yX3_pileNow.cls ≠ "java/lang/invoke/MethodHandle"), (by decide : yX3_pileNow.cls ≠ "java/lang/invoke/VarHandle")⟩, ⟨(by decide +kernel : (parseMethodDescriptor yX3_pileNow.desc).map (fun d => d.parameters.length + 1) = some 3), wk_1636, wk_1638, wk_55, (RX3, TX3, 7), rfl, rfl⟩⟩⟩) (all_n)))))), lookup_all (l := (MX3_pile (gg G)).stt) (P := fun i e => vStt G RX3 i e) (all_n), lookup_all (l := (MX3_pile (gg G)).cst) (P := fun i e => vCst RX3 i e) (all_n), fun h => absurd rfl h, rfl, all_n⟩
theorem okX3_pile {l : Launch} (hl : l.stackTraces = false) {G : GT} : ∀ (args : List Value) (w : Hw) (S : Ot → Hw → Prop), spOf (MX3_pile (gg G)) args w S → CX l G yX3_pile (.code yX3_pile cX3_pile 3 (some .int)) 6 12 72 args w S := CX_sp (M := MX3_pile (gg G)) (y := yX3_pile) hl (by decide) rfl (vMX3_pile hl G) (fun h => by cases h) rfl
end
/-! 40.model13.lean.txt -/
section
/-! RangecardModel.houseNow(I)I -/
theorem dX3_houseNow_0 : decode cX3_houseNow 0 = .ok (.iconst 0, 1) := by decide +kernel
theorem dX3_houseNow_1 : decode cX3_houseNow 1 = .ok (.istore_n 2, 1) := by decide +kernel
theorem dX3_houseNow_2 : decode cX3_houseNow 2 = .ok (.aload_n 0, 1) := by decide +kernel
theorem dX3_houseNow_3 : decode cX3_houseNow 3 = .ok (.getfield 16, 3) := by decide +kernel
theorem dX3_houseNow_6 : decode cX3_houseNow 6 = .ok (.invokevirtual 181, 3) := by decide +kernel
theorem dX3_houseNow_9 : decode cX3_houseNow 9 = .ok (.astore_n 3, 1) := by decide +kernel
theorem dX3_houseNow_10 : decode cX3_houseNow 10 = .ok (.aload_n 3, 1) := by decide +kernel
theorem dX3_houseNow_11 : decode cX3_houseNow 11 = .ok (.invokeinterface 185 1, 5) := by decide +kernel
theorem dX3_houseNow_16 : decode cX3_houseNow 16 = .ok (.ifCond .eq 33, 3) := by decide +kernel
theorem dX3_houseNow_19 : decode cX3_houseNow 19 = .ok (.aload_n 3, 1) := by decide +kernel
theorem dX3_houseNow_20 : decode cX3_houseNow 20 = .ok (.invokeinterface 191 1, 5) := by decide +kernel
theorem dX3_houseNow_25 : decode cX3_houseNow 25 = .ok (.checkcast 125, 3) := by decide +kernel
theorem dX3_houseNow_28 : decode cX3_houseNow 28 = .ok (.astore 4, 2) := by decide +kernel
theorem dX3_houseNow_30 : decode cX3_houseNow 30 = .ok (.iload_n 2, 1) := by decide +kernel
theorem dX3_houseNow_31 : decode cX3_houseNow 31 = .ok (.aload 4, 2) := by decide +kernel
theorem dX3_houseNow_33 : decode cX3_houseNow 33 = .ok (.ifnull 7, 3) := by decide +kernel
theorem dX3_houseNow_36 : decode cX3_houseNow 36 = .ok (.iconst 1, 1) := by decide +kernel
theorem dX3_houseNow_37 : decode cX3_houseNow 37 = .ok (.goto 4, 3) := by decide +kernel
theorem dX3_houseNow_40 : decode cX3_houseNow 40 = .ok (.iconst 0, 1) := by decide +kernel
theorem dX3_houseNow_41 : decode cX3_houseNow 41 = .ok (.invokestatic 92, 3) := by decide +kernel
theorem dX3_houseNow_44 : decode cX3_houseNow 44 = .ok (.iadd, 1) := by decide +kernel
theorem dX3_houseNow_45 : decode cX3_houseNow 45 = .ok (.istore_n 2, 1) := by decide +kernel
theorem dX3_houseNow_46 : decode cX3_houseNow 46 = .ok (.goto (-36), 3) := by decide +kernel
theorem dX3_houseNow_49 : decode cX3_houseNow 49 = .ok (.iconst 5, 1) := by decide +kernel
theorem dX3_houseNow_50 : decode cX3_houseNow 50 = .ok (.newarray .int, 2) := by decide +kernel
theorem dX3_houseNow_52 : decode cX3_houseNow 52 = .ok (.dup, 1) := by decide +kernel
theorem dX3_houseNow_53 : decode cX3_houseNow 53 = .ok (.iconst 0, 1) := by decide +kernel
theorem dX3_houseNow_54 : decode cX3_houseNow 54 = .ok (.iload_n 2, 1) := by decide +kernel
theorem dX3_houseNow_55 : decode cX3_houseNow 55 = .ok (.iastore, 1) := by decide +kernel
theorem dX3_houseNow_56 : decode cX3_houseNow 56 = .ok (.dup, 1) := by decide +kernel
theorem dX3_houseNow_57 : decode cX3_houseNow 57 = .ok (.iconst 1, 1) := by decide +kernel
theorem dX3_houseNow_58 : decode cX3_houseNow 58 = .ok (.aload_n 0, 1) := by decide +kernel
theorem dX3_houseNow_59 : decode cX3_houseNow 59 = .ok (.getfield 20, 3) := by decide +kernel
theorem dX3_houseNow_62 : decode cX3_houseNow 62 = .ok (.invokevirtual 174, 3) := by decide +kernel
theorem dX3_houseNow_65 : decode cX3_houseNow 65 = .ok (.iastore, 1) := by decide +kernel
theorem dX3_houseNow_66 : decode cX3_houseNow 66 = .ok (.dup, 1) := by decide +kernel
theorem dX3_houseNow_67 : decode cX3_houseNow 67 = .ok (.iconst 2, 1) := by decide +kernel
theorem dX3_houseNow_68 : decode cX3_houseNow 68 = .ok (.aload_n 0, 1) := by decide +kernel
theorem dX3_houseNow_69 : decode cX3_houseNow 69 = .ok (.getfield 35, 3) := by decide +kernel
theorem dX3_houseNow_72 : decode cX3_houseNow 72 = .ok (.iastore, 1) := by decide +kernel
theorem dX3_houseNow_73 : decode cX3_houseNow 73 = .ok (.dup, 1) := by decide +kernel
theorem dX3_houseNow_74 : decode cX3_houseNow 74 = .ok (.iconst 3, 1) := by decide +kernel
theorem dX3_houseNow_75 : decode cX3_houseNow 75 = .ok (.aload_n 0, 1) := by decide +kernel
theorem dX3_houseNow_76 : decode cX3_houseNow 76 = .ok (.getfield 210, 3) := by decide +kernel
theorem dX3_houseNow_79 : decode cX3_houseNow 79 = .ok (.iastore, 1) := by decide +kernel
theorem dX3_houseNow_80 : decode cX3_houseNow 80 = .ok (.dup, 1) := by decide +kernel
theorem dX3_houseNow_81 : decode cX3_houseNow 81 = .ok (.iconst 4, 1) := by decide +kernel
theorem dX3_houseNow_82 : decode cX3_houseNow 82 = .ok (.aload_n 0, 1) := by decide +kernel
theorem dX3_houseNow_83 : decode cX3_houseNow 83 = .ok (.getfield 108, 3) := by decide +kernel
theorem dX3_houseNow_86 : decode cX3_houseNow 86 = .ok (.iastore, 1) := by decide +kernel
theorem dX3_houseNow_87 : decode cX3_houseNow 87 = .ok (.astore_n 3, 1) := by decide +kernel
theorem dX3_houseNow_88 : decode cX3_houseNow 88 = .ok (.aload_n 3, 1) := by decide +kernel
theorem dX3_houseNow_89 : decode cX3_houseNow 89 = .ok (.iload_n 1, 1) := by decide +kernel
theorem dX3_houseNow_90 : decode cX3_houseNow 90 = .ok (.iaload, 1) := by decide +kernel
theorem dX3_houseNow_91 : decode cX3_houseNow 91 = .ok (.ireturn, 1) := by decide +kernel
def MX3_houseNow (g : RO) : MT := ((RX3, cX3_houseNow, 5, 3, 2, 9, false, some .int), [(16, 7, 2), (20, 7, 3), (35, 7, 4), (210, 7, 5), (108, 7, 6)], [], [], [], [], 0, [(181, 2, 1, 3, 2, (fun _ _ => 1), (fun _ _ => 4), yJx4a65c_iterator_32c93, spOf (MJx4a65c_iterator_32c93 g)), (185, 6, 1, 2, 1, (fun _ _ => 0), (fun _ _ => 0), yJx35411_hasNext_aae02, spOf (MJx35411_hasNext_aae02 g)), (191, 6, 1, 2, 2, (fun _ _ => 0), (fun _ _ => 0), yJx35411_next_0502b, spOf (MJx35411_next_0502b g)), (92, 0, 1, 0, 1, (fun _ _ => 0), (fun _ _ => 0), yX3_one, spOf (MX3_one g)), (174, 2, 1, 3, 1, (fun _ _ => 0), (fun _ _ => 0), yJx4a65c_size_8abf5, spOf (MJx4a65c_size_8abf5 g))], [], [(125, 0)], 0, [], [], g)
section
variable {g : RO} {Q : Ot → Hw → Prop} {st : List Value} {w : Hw} {k n p q : Nat} {a b : Int32} {x y : Int64} {u v : Value} {l0 l1 l2 l3 l4 : Option Value}
theorem eX3_houseNow_0 : WP (MX3_houseNow g) Q (0, [l0, l1, l2, l3, l4], st, w, k, n) = WP (MX3_houseNow g) Q (1, [l0, l1, l2, l3, l4], .int 0 :: st, w, k, n) := iconst_e rfl dX3_houseNow_0 (by decide)
theorem eX3_houseNow_1 : WP (MX3_houseNow g) Q (1, [l0, l1, l2, l3, l4], .int a :: st, w, k, n) = WP (MX3_houseNow g) Q (2, [l0, nl l1, some (.int a), l3, l4], st, w, k, n) := by rw [WP_at (M := (MX3_houseNow g)) rfl dX3_houseNow_1 (Or.inr rfl)]; exact and_t (Nat.le_of_ble_eq_true rfl)
theorem eX3_houseNow_2 : WP (MX3_houseNow g) Q (2, [some (.ref p), l1, l2, l3, l4], st, w, k, n) = WP (MX3_houseNow g) Q (3, [some (.ref p), l1, l2, l3, l4], .ref p :: st, w, k, n) := Eq.trans (WP_at (M := (MX3_houseNow g)) rfl dX3_houseNow_2 (Or.inr rfl)) rfl
theorem eX3_houseNow_2N : WP (MX3_houseNow g) Q (2, [some .null, l1, l2, l3, l4], st, w, k, n) = WP (MX3_houseNow g) Q (3, [some .null, l1, l2, l3, l4], .null :: st, w, k, n) := Eq.trans (WP_at (M := (MX3_houseNow g)) rfl dX3_houseNow_2 (Or.inr rfl)) rfl
theorem eX3_houseNow_3 : WP (MX3_houseNow g) Q (3, [l0, l1, l2, l3, l4], .ref p :: st, w, k, n) = go (rd g w p) 7 fun fs => ∃ v, fs[2]? = some v ∧ WP (MX3_houseNow g) Q (6, [l0, l1, l2, l3, l4], v :: st, w, k, n) := get_e rfl dX3_houseNow_3 rfl
theorem eX3_houseNow_6  : WP (MX3_houseNow g) Q (6, [l0, l1, l2, l3, l4], .ref p :: st, w, k, n) = (go (rd g w p) 3 (fun _ => True) ∧ wt st ≤ 8 ∧ k + 1 ≤ 2 ∧ n + 4 ≤ 9 ∧ WP (MJx4a65c_iterator_32c93 g) (kx (fun v w' => WP (MX3_houseNow g) Q (9, [l0, l1, l2, l3, l4], v.toList ++ st, w', k + 1, n + 4)) (fun E w' => Q (.inr E) w')) (0, [some (.ref p)], [], w, 0, 0)) := csV (M := (MX3_houseNow g)) (mc := (fun _ _ => 1)) (ms := (fun _ _ => 4)) (As := []) (rest := st) (MJx4a65c_iterator_32c93 g) rfl rfl dX3_houseNow_6 (by exact fun h => nomatch (show (none : Option Nat) = some 11 from h)) (by exact fun h => nomatch (show (none : Option Nat) = some 15 from h)) rfl rfl (by decide) (Nat.le_of_ble_eq_true rfl) (Nat.le_of_ble_eq_true rfl) rfl
theorem eX3_houseNow_9 : WP (MX3_houseNow g) Q (9, [l0, l1, l2, l3, l4], .ref p :: st, w, k, n) = WP (MX3_houseNow g) Q (10, [l0, l1, nl l2, some (.ref p), l4], st, w, k, n) := by rw [WP_at (M := (MX3_houseNow g)) rfl dX3_houseNow_9 (Or.inr rfl)]; exact and_t (Nat.le_of_ble_eq_true rfl)
theorem eX3_houseNow_9N : WP (MX3_houseNow g) Q (9, [l0, l1, l2, l3, l4], .null :: st, w, k, n) = WP (MX3_houseNow g) Q (10, [l0, l1, nl l2, some (.null), l4], st, w, k, n) := by rw [WP_at (M := (MX3_houseNow g)) rfl dX3_houseNow_9 (Or.inr rfl)]; exact and_t (Nat.le_of_ble_eq_true rfl)
theorem eX3_houseNow_10 : WP (MX3_houseNow g) Q (10, [l0, l1, l2, some (.ref p), l4], st, w, k, n) = WP (MX3_houseNow g) Q (11, [l0, l1, l2, some (.ref p), l4], .ref p :: st, w, k, n) := Eq.trans (WP_at (M := (MX3_houseNow g)) rfl dX3_houseNow_10 (Or.inr rfl)) rfl
theorem eX3_houseNow_11  : WP (MX3_houseNow g) Q (11, [l0, l1, l2, l3, l4], .ref p :: st, w, k, n) = (go (rd g w p) 2 (fun _ => True) ∧ wt st ≤ 8 ∧ k + 0 ≤ 2 ∧ n + 0 ≤ 9 ∧ WP (MJx35411_hasNext_aae02 g) (kx (fun v w' => WP (MX3_houseNow g) Q (16, [l0, l1, l2, l3, l4], v.toList ++ st, w', k + 0, n + 0)) (fun E w' => Q (.inr E) w')) (0, [some (.ref p)], [], w, 0, 0)) := csF (M := (MX3_houseNow g)) (mc := (fun _ _ => 0)) (ms := (fun _ _ => 0)) (As := []) (rest := st) (MJx35411_hasNext_aae02 g) rfl rfl dX3_houseNow_11 rfl rfl (Nat.le_of_ble_eq_true rfl) (Nat.le_of_ble_eq_true rfl) rfl
theorem eX3_houseNow_16 : WP (MX3_houseNow g) Q (16, [l0, l1, l2, l3, l4], .int a :: st, w, k, n) = if a = 0 then WP (MX3_houseNow g) Q (49, [l0, l1, l2, l3, l4], st, w, k, n) else WP (MX3_houseNow g) Q (19, [l0, l1, l2, l3, l4], st, w, k, n) := ifc_e (a = 0) rfl dX3_houseNow_16 rfl (by decide)
theorem eX3_houseNow_19 : WP (MX3_houseNow g) Q (19, [l0, l1, l2, some (.ref p), l4], st, w, k, n) = WP (MX3_houseNow g) Q (20, [l0, l1, l2, some (.ref p), l4], .ref p :: st, w, k, n) := Eq.trans (WP_at (M := (MX3_houseNow g)) rfl dX3_houseNow_19 (Or.inr rfl)) rfl
theorem eX3_houseNow_19N : WP (MX3_houseNow g) Q (19, [l0, l1, l2, some .null, l4], st, w, k, n) = WP (MX3_houseNow g) Q (20, [l0, l1, l2, some .null, l4], .null :: st, w, k, n) := Eq.trans (WP_at (M := (MX3_houseNow g)) rfl dX3_houseNow_19 (Or.inr rfl)) rfl
theorem eX3_houseNow_20  : WP (MX3_houseNow g) Q (20, [l0, l1, l2, l3, l4], .ref p :: st, w, k, n) = (go (rd g w p) 2 (fun _ => True) ∧ wt st ≤ 8 ∧ k + 0 ≤ 2 ∧ n + 0 ≤ 9 ∧ WP (MJx35411_next_0502b g) (kx (fun v w' => WP (MX3_houseNow g) Q (25, [l0, l1, l2, l3, l4], v.toList ++ st, w', k + 0, n + 0)) (fun E w' => Q (.inr E) w')) (0, [some (.ref p), none, none], [], w, 0, 0)) := csF (M := (MX3_houseNow g)) (mc := (fun _ _ => 0)) (ms := (fun _ _ => 0)) (As := []) (rest := st) (MJx35411_next_0502b g) rfl rfl dX3_houseNow_20 rfl rfl (Nat.le_of_ble_eq_true rfl) (Nat.le_of_ble_eq_true rfl) rfl
theorem eX3_houseNow_25N : WP (MX3_houseNow g) Q (25, [l0, l1, l2, l3, l4], .null :: st, w, k, n) = WP (MX3_houseNow g) Q (28, [l0, l1, l2, l3, l4], .null :: st, w, k, n) := castN_e rfl dX3_houseNow_25
theorem eX3_houseNow_25R : WP (MX3_houseNow g) Q (25, [l0, l1, l2, l3, l4], .ref p :: st, w, k, n) = ((∃ x, w p = some (.inl (0, x))) ∧ WP (MX3_houseNow g) Q (28, [l0, l1, l2, l3, l4], .ref p :: st, w, k, n)) := castR_e rfl dX3_houseNow_25 rfl
theorem eX3_houseNow_28 : WP (MX3_houseNow g) Q (28, [l0, l1, l2, l3, l4], .ref p :: st, w, k, n) = WP (MX3_houseNow g) Q (30, [l0, l1, l2, nl l3, some (.ref p)], st, w, k, n) := by rw [WP_at (M := (MX3_houseNow g)) rfl dX3_houseNow_28 (Or.inr rfl)]; exact and_t (Nat.le_of_ble_eq_true rfl)
theorem eX3_houseNow_28N : WP (MX3_houseNow g) Q (28, [l0, l1, l2, l3, l4], .null :: st, w, k, n) = WP (MX3_houseNow g) Q (30, [l0, l1, l2, nl l3, some (.null)], st, w, k, n) := by rw [WP_at (M := (MX3_houseNow g)) rfl dX3_houseNow_28 (Or.inr rfl)]; exact and_t (Nat.le_of_ble_eq_true rfl)
theorem eX3_houseNow_30 : WP (MX3_houseNow g) Q (30, [l0, l1, some (.int a), l3, l4], st, w, k, n) = WP (MX3_houseNow g) Q (31, [l0, l1, some (.int a), l3, l4], .int a :: st, w, k, n) := Eq.trans (WP_at (M := (MX3_houseNow g)) rfl dX3_houseNow_30 (Or.inr rfl)) rfl
theorem eX3_houseNow_31 : WP (MX3_houseNow g) Q (31, [l0, l1, l2, l3, some (.ref p)], st, w, k, n) = WP (MX3_houseNow g) Q (33, [l0, l1, l2, l3, some (.ref p)], .ref p :: st, w, k, n) := Eq.trans (WP_at (M := (MX3_houseNow g)) rfl dX3_houseNow_31 (Or.inr rfl)) rfl
theorem eX3_houseNow_31N : WP (MX3_houseNow g) Q (31, [l0, l1, l2, l3, some .null], st, w, k, n) = WP (MX3_houseNow g) Q (33, [l0, l1, l2, l3, some .null], .null :: st, w, k, n) := Eq.trans (WP_at (M := (MX3_houseNow g)) rfl dX3_houseNow_31 (Or.inr rfl)) rfl
theorem eX3_houseNow_33R : WP (MX3_houseNow g) Q (33, [l0, l1, l2, l3, l4], .ref p :: st, w, k, n) = WP (MX3_houseNow g) Q (36, [l0, l1, l2, l3, l4], st, w, k, n) := ifnullR_e rfl dX3_houseNow_33 (tgt := 40) (by decide)
theorem eX3_houseNow_33N : WP (MX3_houseNow g) Q (33, [l0, l1, l2, l3, l4], .null :: st, w, k, n) = WP (MX3_houseNow g) Q (40, [l0, l1, l2, l3, l4], st, w, k, n) := ifnullN_e rfl dX3_houseNow_33 (tgt := 40) (by decide)
theorem eX3_houseNow_36 : WP (MX3_houseNow g) Q (36, [l0, l1, l2, l3, l4], st, w, k, n) = WP (MX3_houseNow g) Q (37, [l0, l1, l2, l3, l4], .int 1 :: st, w, k, n) := iconst_e rfl dX3_houseNow_36 (by decide)
theorem eX3_houseNow_37 : WP (MX3_houseNow g) Q (37, [l0, l1, l2, l3, l4], st, w, k, n) = WP (MX3_houseNow g) Q (41, [l0, l1, l2, l3, l4], st, w, k, n) := goto_e rfl dX3_houseNow_37 (by decide)
theorem eX3_houseNow_40 : WP (MX3_houseNow g) Q (40, [l0, l1, l2, l3, l4], st, w, k, n) = WP (MX3_houseNow g) Q (41, [l0, l1, l2, l3, l4], .int 0 :: st, w, k, n) := iconst_e rfl dX3_houseNow_40 (by decide)
theorem eX3_houseNow_41 {z0 : Int32} : WP (MX3_houseNow g) Q (41, [l0, l1, l2, l3, l4], .int z0 :: st, w, k, n) = (wt st ≤ 8 ∧ k + 0 ≤ 2 ∧ n + 0 ≤ 9 ∧ WP (MX3_one g) (kx (fun v w' => WP (MX3_houseNow g) Q (44, [l0, l1, l2, l3, l4], v.toList ++ st, w', k + 0, n + 0)) (fun E w' => Q (.inr E) w')) (0, [some (.int z0)], [], w, 0, 0)) := csS (M := (MX3_houseNow g)) (mc := (fun _ _ => 0)) (ms := (fun _ _ => 0)) (As := [.int z0]) (rest := st) (MX3_one g) rfl rfl dX3_houseNow_41 (Nat.ne_of_beq_eq_false rfl) (by exact fun h => nomatch (show (none : Option Nat) = some 12 from h)) (by exact fun h => nomatch (show (none : Option Nat) = some 13 from h)) (by exact fun h => nomatch (show (none : Option Nat) = some 14 from h)) rfl rfl (by decide) (Nat.le_of_ble_eq_true rfl) (Nat.le_of_ble_eq_true rfl) rfl
theorem eX3_houseNow_44 : WP (MX3_houseNow g) Q (44, [l0, l1, l2, l3, l4], .int b :: .int a :: st, w, k, n) = WP (MX3_houseNow g) Q (45, [l0, l1, l2, l3, l4], .int (a + b) :: st, w, k, n) := Eq.trans (WP_at (M := (MX3_houseNow g)) rfl dX3_houseNow_44 (Or.inr rfl)) rfl
theorem eX3_houseNow_45 : WP (MX3_houseNow g) Q (45, [l0, l1, l2, l3, l4], .int a :: st, w, k, n) = WP (MX3_houseNow g) Q (46, [l0, nl l1, some (.int a), l3, l4], st, w, k, n) := by rw [WP_at (M := (MX3_houseNow g)) rfl dX3_houseNow_45 (Or.inr rfl)]; exact and_t (Nat.le_of_ble_eq_true rfl)
theorem eX3_houseNow_46 : WP (MX3_houseNow g) Q (46, [l0, l1, l2, l3, l4], st, w, k, n) = WP (MX3_houseNow g) Q (10, [l0, l1, l2, l3, l4], st, w, k, n) := goto_e rfl dX3_houseNow_46 (by decide)
theorem eX3_houseNow_49 : WP (MX3_houseNow g) Q (49, [l0, l1, l2, l3, l4], st, w, k, n) = WP (MX3_houseNow g) Q (50, [l0, l1, l2, l3, l4], .int 5 :: st, w, k, n) := iconst_e rfl dX3_houseNow_49 (by decide)
theorem eX3_houseNow_50 : WP (MX3_houseNow g) Q (50, [l0, l1, l2, l3, l4], .int a :: st, w, k, n) = (¬ a < 0 ∧ a.toNatClampNeg ≤ 40000 ∧ k + 1 ≤ 2 ∧ n + a.toNatClampNeg ≤ 9 ∧ ∀ q : Nat, rd g w q = none → WP (MX3_houseNow g) Q (52, [l0, l1, l2, l3, l4], .ref q :: st, upw w q (.inl (1, a.toNatClampNeg, .inl fun _ => 0)), k + 1, n + a.toNatClampNeg)) := Eq.trans (WP_at (M := (MX3_houseNow g)) rfl dX3_houseNow_50 (Or.inr rfl)) rfl
theorem eX3_houseNow_52 : WP (MX3_houseNow g) Q (52, [l0, l1, l2, l3, l4], .int a :: st, w, k, n) = WP (MX3_houseNow g) Q (53, [l0, l1, l2, l3, l4], .int a :: .int a :: st, w, k, n) := by rw [WP_at (M := (MX3_houseNow g)) rfl dX3_houseNow_52 (Or.inr rfl)]; exact and_t rfl
theorem eX3_houseNow_52R : WP (MX3_houseNow g) Q (52, [l0, l1, l2, l3, l4], .ref p :: st, w, k, n) = WP (MX3_houseNow g) Q (53, [l0, l1, l2, l3, l4], .ref p :: .ref p :: st, w, k, n) := by rw [WP_at (M := (MX3_houseNow g)) rfl dX3_houseNow_52 (Or.inr rfl)]; exact and_t rfl
theorem eX3_houseNow_53 : WP (MX3_houseNow g) Q (53, [l0, l1, l2, l3, l4], st, w, k, n) = WP (MX3_houseNow g) Q (54, [l0, l1, l2, l3, l4], .int 0 :: st, w, k, n) := iconst_e rfl dX3_houseNow_53 (by decide)
theorem eX3_houseNow_54 : WP (MX3_houseNow g) Q (54, [l0, l1, some (.int a), l3, l4], st, w, k, n) = WP (MX3_houseNow g) Q (55, [l0, l1, some (.int a), l3, l4], .int a :: st, w, k, n) := Eq.trans (WP_at (M := (MX3_houseNow g)) rfl dX3_houseNow_54 (Or.inr rfl)) rfl
theorem eX3_houseNow_55 : WP (MX3_houseNow g) Q (55, [l0, l1, l2, l3, l4], .int b :: .int a :: .ref p :: st, w, k, n) = gi (w p) 1 fun N f => vp_in a N ∧ WP (MX3_houseNow g) Q (56, [l0, l1, l2, l3, l4], st, upw w p (.inl (1, N, .inl (upd f a.toNatClampNeg b))), k, n) := Eq.trans (WP_at (M := (MX3_houseNow g)) rfl dX3_houseNow_55 (Or.inr rfl)) rfl
theorem eX3_houseNow_56 : WP (MX3_houseNow g) Q (56, [l0, l1, l2, l3, l4], .int a :: st, w, k, n) = WP (MX3_houseNow g) Q (57, [l0, l1, l2, l3, l4], .int a :: .int a :: st, w, k, n) := by rw [WP_at (M := (MX3_houseNow g)) rfl dX3_houseNow_56 (Or.inr rfl)]; exact and_t rfl
theorem eX3_houseNow_56R : WP (MX3_houseNow g) Q (56, [l0, l1, l2, l3, l4], .ref p :: st, w, k, n) = WP (MX3_houseNow g) Q (57, [l0, l1, l2, l3, l4], .ref p :: .ref p :: st, w, k, n) := by rw [WP_at (M := (MX3_houseNow g)) rfl dX3_houseNow_56 (Or.inr rfl)]; exact and_t rfl
theorem eX3_houseNow_57 : WP (MX3_houseNow g) Q (57, [l0, l1, l2, l3, l4], st, w, k, n) = WP (MX3_houseNow g) Q (58, [l0, l1, l2, l3, l4], .int 1 :: st, w, k, n) := iconst_e rfl dX3_houseNow_57 (by decide)
theorem eX3_houseNow_58 : WP (MX3_houseNow g) Q (58, [some (.ref p), l1, l2, l3, l4], st, w, k, n) = WP (MX3_houseNow g) Q (59, [some (.ref p), l1, l2, l3, l4], .ref p :: st, w, k, n) := Eq.trans (WP_at (M := (MX3_houseNow g)) rfl dX3_houseNow_58 (Or.inr rfl)) rfl
theorem eX3_houseNow_58N : WP (MX3_houseNow g) Q (58, [some .null, l1, l2, l3, l4], st, w, k, n) = WP (MX3_houseNow g) Q (59, [some .null, l1, l2, l3, l4], .null :: st, w, k, n) := Eq.trans (WP_at (M := (MX3_houseNow g)) rfl dX3_houseNow_58 (Or.inr rfl)) rfl
theorem eX3_houseNow_59 : WP (MX3_houseNow g) Q (59, [l0, l1, l2, l3, l4], .ref p :: st, w, k, n) = go (rd g w p) 7 fun fs => ∃ v, fs[3]? = some v ∧ WP (MX3_houseNow g) Q (62, [l0, l1, l2, l3, l4], v :: st, w, k, n) := get_e rfl dX3_houseNow_59 rfl
theorem eX3_houseNow_62  : WP (MX3_houseNow g) Q (62, [l0, l1, l2, l3, l4], .ref p :: st, w, k, n) = (go (rd g w p) 3 (fun _ => True) ∧ wt st ≤ 8 ∧ k + 0 ≤ 2 ∧ n + 0 ≤ 9 ∧ WP (MJx4a65c_size_8abf5 g) (kx (fun v w' => WP (MX3_houseNow g) Q (65, [l0, l1, l2, l3, l4], v.toList ++ st, w', k + 0, n + 0)) (fun E w' => Q (.inr E) w')) (0, [some (.ref p)], [], w, 0, 0)) := csV (M := (MX3_houseNow g)) (mc := (fun _ _ => 0)) (ms := (fun _ _ => 0)) (As := []) (rest := st) (MJx4a65c_size_8abf5 g) rfl rfl dX3_houseNow_62 (by exact fun h => nomatch (show (none : Option Nat) = some 11 from h)) (by exact fun h => nomatch (show (none : Option Nat) = some 15 from h)) rfl rfl (by decide) (Nat.le_of_ble_eq_true rfl) (Nat.le_of_ble_eq_true rfl) rfl
theorem eX3_houseNow_65 : WP (MX3_houseNow g) Q (65, [l0, l1, l2, l3, l4], .int b :: .int a :: .ref p :: st, w, k, n) = gi (w p) 1 fun N f => vp_in a N ∧ WP (MX3_houseNow g) Q (66, [l0, l1, l2, l3, l4], st, upw w p (.inl (1, N, .inl (upd f a.toNatClampNeg b))), k, n) := Eq.trans (WP_at (M := (MX3_houseNow g)) rfl dX3_houseNow_65 (Or.inr rfl)) rfl
theorem eX3_houseNow_66 : WP (MX3_houseNow g) Q (66, [l0, l1, l2, l3, l4], .int a :: st, w, k, n) = WP (MX3_houseNow g) Q (67, [l0, l1, l2, l3, l4], .int a :: .int a :: st, w, k, n) := by rw [WP_at (M := (MX3_houseNow g)) rfl dX3_houseNow_66 (Or.inr rfl)]; exact and_t rfl
theorem eX3_houseNow_66R : WP (MX3_houseNow g) Q (66, [l0, l1, l2, l3, l4], .ref p :: st, w, k, n) = WP (MX3_houseNow g) Q (67, [l0, l1, l2, l3, l4], .ref p :: .ref p :: st, w, k, n) := by rw [WP_at (M := (MX3_houseNow g)) rfl dX3_houseNow_66 (Or.inr rfl)]; exact and_t rfl
theorem eX3_houseNow_67 : WP (MX3_houseNow g) Q (67, [l0, l1, l2, l3, l4], st, w, k, n) = WP (MX3_houseNow g) Q (68, [l0, l1, l2, l3, l4], .int 2 :: st, w, k, n) := iconst_e rfl dX3_houseNow_67 (by decide)
theorem eX3_houseNow_68 : WP (MX3_houseNow g) Q (68, [some (.ref p), l1, l2, l3, l4], st, w, k, n) = WP (MX3_houseNow g) Q (69, [some (.ref p), l1, l2, l3, l4], .ref p :: st, w, k, n) := Eq.trans (WP_at (M := (MX3_houseNow g)) rfl dX3_houseNow_68 (Or.inr rfl)) rfl
theorem eX3_houseNow_68N : WP (MX3_houseNow g) Q (68, [some .null, l1, l2, l3, l4], st, w, k, n) = WP (MX3_houseNow g) Q (69, [some .null, l1, l2, l3, l4], .null :: st, w, k, n) := Eq.trans (WP_at (M := (MX3_houseNow g)) rfl dX3_houseNow_68 (Or.inr rfl)) rfl
theorem eX3_houseNow_69 : WP (MX3_houseNow g) Q (69, [l0, l1, l2, l3, l4], .ref p :: st, w, k, n) = go (rd g w p) 7 fun fs => ∃ v, fs[4]? = some v ∧ WP (MX3_houseNow g) Q (72, [l0, l1, l2, l3, l4], v :: st, w, k, n) := get_e rfl dX3_houseNow_69 rfl
theorem eX3_houseNow_72 : WP (MX3_houseNow g) Q (72, [l0, l1, l2, l3, l4], .int b :: .int a :: .ref p :: st, w, k, n) = gi (w p) 1 fun N f => vp_in a N ∧ WP (MX3_houseNow g) Q (73, [l0, l1, l2, l3, l4], st, upw w p (.inl (1, N, .inl (upd f a.toNatClampNeg b))), k, n) := Eq.trans (WP_at (M := (MX3_houseNow g)) rfl dX3_houseNow_72 (Or.inr rfl)) rfl
theorem eX3_houseNow_73 : WP (MX3_houseNow g) Q (73, [l0, l1, l2, l3, l4], .int a :: st, w, k, n) = WP (MX3_houseNow g) Q (74, [l0, l1, l2, l3, l4], .int a :: .int a :: st, w, k, n) := by rw [WP_at (M := (MX3_houseNow g)) rfl dX3_houseNow_73 (Or.inr rfl)]; exact and_t rfl
theorem eX3_houseNow_73R : WP (MX3_houseNow g) Q (73, [l0, l1, l2, l3, l4], .ref p :: st, w, k, n) = WP (MX3_houseNow g) Q (74, [l0, l1, l2, l3, l4], .ref p :: .ref p :: st, w, k, n) := by rw [WP_at (M := (MX3_houseNow g)) rfl dX3_houseNow_73 (Or.inr rfl)]; exact and_t rfl
theorem eX3_houseNow_74 : WP (MX3_houseNow g) Q (74, [l0, l1, l2, l3, l4], st, w, k, n) = WP (MX3_houseNow g) Q (75, [l0, l1, l2, l3, l4], .int 3 :: st, w, k, n) := iconst_e rfl dX3_houseNow_74 (by decide)
theorem eX3_houseNow_75 : WP (MX3_houseNow g) Q (75, [some (.ref p), l1, l2, l3, l4], st, w, k, n) = WP (MX3_houseNow g) Q (76, [some (.ref p), l1, l2, l3, l4], .ref p :: st, w, k, n) := Eq.trans (WP_at (M := (MX3_houseNow g)) rfl dX3_houseNow_75 (Or.inr rfl)) rfl
theorem eX3_houseNow_75N : WP (MX3_houseNow g) Q (75, [some .null, l1, l2, l3, l4], st, w, k, n) = WP (MX3_houseNow g) Q (76, [some .null, l1, l2, l3, l4], .null :: st, w, k, n) := Eq.trans (WP_at (M := (MX3_houseNow g)) rfl dX3_houseNow_75 (Or.inr rfl)) rfl
theorem eX3_houseNow_76 : WP (MX3_houseNow g) Q (76, [l0, l1, l2, l3, l4], .ref p :: st, w, k, n) = go (rd g w p) 7 fun fs => ∃ v, fs[5]? = some v ∧ WP (MX3_houseNow g) Q (79, [l0, l1, l2, l3, l4], v :: st, w, k, n) := get_e rfl dX3_houseNow_76 rfl
theorem eX3_houseNow_79 : WP (MX3_houseNow g) Q (79, [l0, l1, l2, l3, l4], .int b :: .int a :: .ref p :: st, w, k, n) = gi (w p) 1 fun N f => vp_in a N ∧ WP (MX3_houseNow g) Q (80, [l0, l1, l2, l3, l4], st, upw w p (.inl (1, N, .inl (upd f a.toNatClampNeg b))), k, n) := Eq.trans (WP_at (M := (MX3_houseNow g)) rfl dX3_houseNow_79 (Or.inr rfl)) rfl
theorem eX3_houseNow_80 : WP (MX3_houseNow g) Q (80, [l0, l1, l2, l3, l4], .int a :: st, w, k, n) = WP (MX3_houseNow g) Q (81, [l0, l1, l2, l3, l4], .int a :: .int a :: st, w, k, n) := by rw [WP_at (M := (MX3_houseNow g)) rfl dX3_houseNow_80 (Or.inr rfl)]; exact and_t rfl
theorem eX3_houseNow_80R : WP (MX3_houseNow g) Q (80, [l0, l1, l2, l3, l4], .ref p :: st, w, k, n) = WP (MX3_houseNow g) Q (81, [l0, l1, l2, l3, l4], .ref p :: .ref p :: st, w, k, n) := by rw [WP_at (M := (MX3_houseNow g)) rfl dX3_houseNow_80 (Or.inr rfl)]; exact and_t rfl
theorem eX3_houseNow_81 : WP (MX3_houseNow g) Q (81, [l0, l1, l2, l3, l4], st, w, k, n) = WP (MX3_houseNow g) Q (82, [l0, l1, l2, l3, l4], .int 4 :: st, w, k, n) := iconst_e rfl dX3_houseNow_81 (by decide)
theorem eX3_houseNow_82 : WP (MX3_houseNow g) Q (82, [some (.ref p), l1, l2, l3, l4], st, w, k, n) = WP (MX3_houseNow g) Q (83, [some (.ref p), l1, l2, l3, l4], .ref p :: st, w, k, n) := Eq.trans (WP_at (M := (MX3_houseNow g)) rfl dX3_houseNow_82 (Or.inr rfl)) rfl
theorem eX3_houseNow_82N : WP (MX3_houseNow g) Q (82, [some .null, l1, l2, l3, l4], st, w, k, n) = WP (MX3_houseNow g) Q (83, [some .null, l1, l2, l3, l4], .null :: st, w, k, n) := Eq.trans (WP_at (M := (MX3_houseNow g)) rfl dX3_houseNow_82 (Or.inr rfl)) rfl
theorem eX3_houseNow_83 : WP (MX3_houseNow g) Q (83, [l0, l1, l2, l3, l4], .ref p :: st, w, k, n) = go (rd g w p) 7 fun fs => ∃ v, fs[6]? = some v ∧ WP (MX3_houseNow g) Q (86, [l0, l1, l2, l3, l4], v :: st, w, k, n) := get_e rfl dX3_houseNow_83 rfl
theorem eX3_houseNow_86 : WP (MX3_houseNow g) Q (86, [l0, l1, l2, l3, l4], .int b :: .int a :: .ref p :: st, w, k, n) = gi (w p) 1 fun N f => vp_in a N ∧ WP (MX3_houseNow g) Q (87, [l0, l1, l2, l3, l4], st, upw w p (.inl (1, N, .inl (upd f a.toNatClampNeg b))), k, n) := Eq.trans (WP_at (M := (MX3_houseNow g)) rfl dX3_houseNow_86 (Or.inr rfl)) rfl
theorem eX3_houseNow_87 : WP (MX3_houseNow g) Q (87, [l0, l1, l2, l3, l4], .ref p :: st, w, k, n) = WP (MX3_houseNow g) Q (88, [l0, l1, nl l2, some (.ref p), l4], st, w, k, n) := by rw [WP_at (M := (MX3_houseNow g)) rfl dX3_houseNow_87 (Or.inr rfl)]; exact and_t (Nat.le_of_ble_eq_true rfl)
theorem eX3_houseNow_87N : WP (MX3_houseNow g) Q (87, [l0, l1, l2, l3, l4], .null :: st, w, k, n) = WP (MX3_houseNow g) Q (88, [l0, l1, nl l2, some (.null), l4], st, w, k, n) := by rw [WP_at (M := (MX3_houseNow g)) rfl dX3_houseNow_87 (Or.inr rfl)]; exact and_t (Nat.le_of_ble_eq_true rfl)
theorem eX3_houseNow_88 : WP (MX3_houseNow g) Q (88, [l0, l1, l2, some (.ref p), l4], st, w, k, n) = WP (MX3_houseNow g) Q (89, [l0, l1, l2, some (.ref p), l4], .ref p :: st, w, k, n) := Eq.trans (WP_at (M := (MX3_houseNow g)) rfl dX3_houseNow_88 (Or.inr rfl)) rfl
theorem eX3_houseNow_88N : WP (MX3_houseNow g) Q (88, [l0, l1, l2, some .null, l4], st, w, k, n) = WP (MX3_houseNow g) Q (89, [l0, l1, l2, some .null, l4], .null :: st, w, k, n) := Eq.trans (WP_at (M := (MX3_houseNow g)) rfl dX3_houseNow_88 (Or.inr rfl)) rfl
theorem eX3_houseNow_89 : WP (MX3_houseNow g) Q (89, [l0, some (.int a), l2, l3, l4], st, w, k, n) = WP (MX3_houseNow g) Q (90, [l0, some (.int a), l2, l3, l4], .int a :: st, w, k, n) := Eq.trans (WP_at (M := (MX3_houseNow g)) rfl dX3_houseNow_89 (Or.inr rfl)) rfl
theorem eX3_houseNow_90 : WP (MX3_houseNow g) Q (90, [l0, l1, l2, l3, l4], .int a :: .ref p :: st, w, k, n) = gi (rd g w p) 1 fun N f => vp_in a N ∧ WP (MX3_houseNow g) Q (91, [l0, l1, l2, l3, l4], .int (f a.toNatClampNeg) :: st, w, k, n) := Eq.trans (WP_at (M := (MX3_houseNow g)) rfl dX3_houseNow_90 (Or.inr rfl)) rfl
set_option maxRecDepth 20000 in
theorem eX3_houseNow_91 : WP (MX3_houseNow g) Q (91, [l0, l1, l2, l3, l4], [.int a], w, k, n) = (k ≤ 2 ∧ n ≤ 9 ∧ Q (.inl (some (.int a))) w) := iretI_e rfl dX3_houseNow_91 rfl
end
theorem wk_1197 : (.fieldLink RX3 210 "RangecardModel" "knocked" "I" : Jvm.Cond) ∈ WS := WS_t5 179 rfl rfl
theorem vF_RX3_210 : vFld RX3 210 7 5 := ⟨RX3, TX3, 7, tyX3, "RangecardModel", rfl, by decide, iW_7, tyX3_ok, nmX3, Or.inl rfl, Or.inl wk_1197⟩
theorem vMX3_houseNow {l : Launch} (hl : l.stackTraces = false) (G : GT) : vM l G (MX3_houseNow (gg G)) := ⟨fun i c j h => lookup_all (l := (MX3_houseNow (gg G)).fld) (P := fun i e => vFld RX3 i e.1 e.2) (all_c (vF_RX3_16) (all_c (vF_RX3_20) (all_c (vF_RX3_35) (all_c (vF_RX3_210) (all_c (vF_RX3_108) (all_n)))))) i (c, j) h, fun i c fs h => lookup_all (l := (MX3_houseNow (gg G)).new) (P := fun i e => vNew RX3 i e.1 e.2) (all_n) i (c, fs) h, lookup_all (l := (MX3_houseNow (gg G)).anew) (P := fun i e => vANew RX3 i e) (all_n), lookup_all (l := (MX3_houseNow (gg G)).lng) (P := fun i e => Jvm.Cond.constantLong RX3 i e ∈ WS) (all_n), lookup_all (l := (MX3_houseNow (gg G)).thr) (P := fun i e => vThr RX3 cX3_houseNow i e) (all_n), fun h => absurd rfl h, lookup_all (l := (MX3_houseNow (gg G)).cal) (P := fun i e => vCal l G RX3 i e) (all_c (⟨cJx4a65c_iterator_32c93, 1, some (.object "java/util/Iterator"), fun y hy => by subst hy; exact ⟨by decide, ⟨_, wk_1543, okJx4a65c_iterator_32c93 hl, Or.inl ⟨Nat.ne_of_beq_eq_false rfl, rfl⟩⟩, wk_63, ⟨(by decide : yJx4a65c_iterator_32c93.cls ≠ "java/lang/invoke/MethodHandle"), (by decide : yJx4a65c_iterator_32c93.cls ≠ "java/lang/invoke/VarHandle")⟩, ⟨(by decide +kernel : (parseMethodDescriptor yJx4a65c_iterator_32c93.desc).map (fun d => d.parameters.length + 1) = some 1), wk_1540, wk_1541, wk_1542, (RJx4a65c, TJx4a65c, 3), rfl, rfl⟩⟩⟩) (all_c (⟨cJx35411_hasNext_aae02, 1, some .boolean, fun y hy => by subst hy; exact ⟨by decide, ⟨_, wk_1572, okJx35411_hasNext_aae02 hl, Or.inl ⟨Nat.ne_of_beq_eq_false rfl, rfl⟩⟩, wk_87, ⟨(by decide : yJx35411_hasNext_aae02.cls ≠ "java/lang/invoke/MethodHandle"), (by decide : yJx35411_hasNext_aae02.cls ≠ "java/lang/invoke/VarHandle")⟩, ⟨(⟨"java/util/Iterator", "hasNext", "()Z"⟩ : MethodName), (by decide +kernel : (parseMethodDescriptor (⟨"java/util/Iterator", "hasNext", "()Z"⟩ : MethodName).desc).map (fun d => d.parameters.length + 1) = some 1), wk_1564, wk_1570, (RJx35411, TJx35411, 4), rfl, wk_1568, (by decide : (RJx35411, (⟨"java/util/Iterator", "hasNext", "()Z"⟩ : MethodName), yJx35411_hasNext_aae02) ∈ IFL)⟩⟩⟩) (all_c (⟨cJx35411_next_0502b, 3, some (.object "java/lang/Object"), fun y hy => by subst hy; exact ⟨by decide, ⟨_, wk_1581, okJx35411_next_0502b hl, Or.inl ⟨Nat.ne_of_beq_eq_false rfl, rfl⟩⟩, wk_87, ⟨(by decide : yJx35411_next_0502b.cls ≠ "java/lang/invoke/MethodHandle"), (by decide : yJx35411_next_0502b.cls ≠ "java/lang/invoke/VarHandle")⟩, ⟨(⟨"java/util/Iterator", "next", "()Ljava/lang/Object;"⟩ : MethodName), (by decide +kernel : (parseMethodDescriptor (⟨"java/util/Iterator", "next", "()Ljava/lang/Object;"⟩ : MethodName).desc).map (fun d => d.parameters.length + 1) = some 1), wk_1574, wk_1579, (RJx35411, TJx35411, 4), rfl, wk_1577, (by decide : (RJx35411, (⟨"java/util/Iterator", "next", "()Ljava/lang/Object;"⟩ : MethodName), yJx35411_next_0502b) ∈ IFL)⟩⟩⟩) (all_c (⟨cX3_one, 1, some .int, fun y hy => by subst hy; exact ⟨by decide, ⟨_, wk_1313, okX3_one hl, Or.inl ⟨Nat.ne_of_beq_eq_false rfl, rfl⟩⟩, wk_60, ⟨(by decide : yX3_one.cls ≠ "java/lang/invoke/MethodHandle"), (by decide : yX3_one.cls ≠ "java/lang/invoke/VarHandle")⟩, ⟨(by decide +kernel : (parseMethodDescriptor yX3_one.desc).map (fun d => d.parameters.length) = some 1), wk_1311, wk_1312⟩⟩⟩) (all_c (⟨cJx4a65c_size_8abf5, 1, some .int, fun y hy => by subst hy; exact ⟨by decide, ⟨_, wk_1523, okJx4a65c_size_8abf5 hl, Or.inl ⟨Nat.ne_of_beq_eq_false rfl, rfl⟩⟩, wk_63, ⟨(by decide : yJx4a65c_size_8abf5.cls ≠ "java/lang/invoke/MethodHandle"), (by decide : yJx4a65c_size_8abf5.cls ≠ "java/lang/invoke/VarHandle")⟩, ⟨(by decide +kernel : (parseMethodDescriptor yJx4a65c_size_8abf5.desc).map (fun d => d.parameters.length + 1) = some 1), wk_1520, wk_1521, wk_1522, (RJx4a65c, TJx4a65c, 3), rfl, rfl⟩⟩⟩) (all_n)))))), lookup_all (l := (MX3_houseNow (gg G)).stt) (P := fun i e => vStt G RX3 i e) (all_n), lookup_all (l := (MX3_houseNow (gg G)).cst) (P := fun i e => vCst RX3 i e) (all_c (⟨.long, rfl, (fun C h => by cases h), wk_1380⟩) (all_n)), fun h => absurd rfl h, rfl, all_n⟩
theorem okX3_houseNow {l : Launch} (hl : l.stackTraces = false) {G : GT} : ∀ (args : List Value) (w : Hw) (S : Ot → Hw → Prop), spOf (MX3_houseNow (gg G)) args w S → CX l G yX3_houseNow (.code yX3_houseNow cX3_houseNow 5 (some .int)) 3 2 9 args w S := CX_sp (M := MX3_houseNow (gg G)) (y := yX3_houseNow) hl (by decide) rfl (vMX3_houseNow hl G) (fun h => by cases h) rfl
/-! RangecardModel.house(I)I -/
theorem dX3_house_0 : decode cX3_house 0 = .ok (.aload_n 0, 1) := by decide +kernel
theorem dX3_house_1 : decode cX3_house 1 = .ok (.iload_n 1, 1) := by decide +kernel
theorem dX3_house_2 : decode cX3_house 2 = .ok (.iconst 0, 1) := by decide +kernel
theorem dX3_house_3 : decode cX3_house 3 = .ok (.iconst 4, 1) := by decide +kernel
theorem dX3_house_4 : decode cX3_house 4 = .ok (.invokestatic 38, 3) := by decide +kernel
theorem dX3_house_7 : decode cX3_house 7 = .ok (.ifCond .ne 7, 3) := by decide +kernel
theorem dX3_house_10 : decode cX3_house 10 = .ok (.iconst 1, 1) := by decide +kernel
theorem dX3_house_11 : decode cX3_house 11 = .ok (.goto 4, 3) := by decide +kernel
theorem dX3_house_14 : decode cX3_house 14 = .ok (.iconst 0, 1) := by decide +kernel
theorem dX3_house_15 : decode cX3_house 15 = .ok (.iconst 1, 1) := by decide +kernel
theorem dX3_house_16 : decode cX3_house 16 = .ok (.invokevirtual 54, 3) := by decide +kernel
theorem dX3_house_19 : decode cX3_house 19 = .ok (.ifCond .eq 7, 3) := by decide +kernel
theorem dX3_house_22 : decode cX3_house 22 = .ok (.iconst 0, 1) := by decide +kernel
theorem dX3_house_23 : decode cX3_house 23 = .ok (.goto 8, 3) := by decide +kernel
theorem dX3_house_26 : decode cX3_house 26 = .ok (.aload_n 0, 1) := by decide +kernel
theorem dX3_house_27 : decode cX3_house 27 = .ok (.iload_n 1, 1) := by decide +kernel
theorem dX3_house_28 : decode cX3_house 28 = .ok (.invokevirtual 213, 3) := by decide +kernel
theorem dX3_house_31 : decode cX3_house 31 = .ok (.ireturn, 1) := by decide +kernel
def MX3_house (g : RO) : MT := ((RX3, cX3_house, 2, 4, 2, 9, false, some .int), [], [], [], [], [], 0, [(38, 0, 3, 0, 1, (fun _ _ => 0), (fun _ _ => 0), yX3_isIn, spOf (MX3_isIn g)), (54, 2, 3, 7, 2, (fun _ _ => 0), (fun _ _ => 0), yX3_start, spOf (MX3_start g)), (213, 2, 2, 7, 3, (fun _ _ => 2), (fun _ _ => 9), yX3_houseNow, spOf (MX3_houseNow g))], [], [], 0, [], [], g)
section
variable {g : RO} {Q : Ot → Hw → Prop} {st : List Value} {w : Hw} {k n p q : Nat} {a b : Int32} {x y : Int64} {u v : Value} {l0 l1 : Option Value}
theorem eX3_house_0 : WP (MX3_house g) Q (0, [some (.ref p), l1], st, w, k, n) = WP (MX3_house g) Q (1, [some (.ref p), l1], .ref p :: st, w, k, n) := Eq.trans (WP_at (M := (MX3_house g)) rfl dX3_house_0 (Or.inr rfl)) rfl
theorem eX3_house_0N : WP (MX3_house g) Q (0, [some .null, l1], st, w, k, n) = WP (MX3_house g) Q (1, [some .null, l1], .null :: st, w, k, n) := Eq.trans (WP_at (M := (MX3_house g)) rfl dX3_house_0 (Or.inr rfl)) rfl
theorem eX3_house_1 : WP (MX3_house g) Q (1, [l0, some (.int a)], st, w, k, n) = WP (MX3_house g) Q (2, [l0, some (.int a)], .int a :: st, w, k, n) := Eq.trans (WP_at (M := (MX3_house g)) rfl dX3_house_1 (Or.inr rfl)) rfl
theorem eX3_house_2 : WP (MX3_house g) Q (2, [l0, l1], st, w, k, n) = WP (MX3_house g) Q (3, [l0, l1], .int 0 :: st, w, k, n) := iconst_e rfl dX3_house_2 (by decide)
theorem eX3_house_3 : WP (MX3_house g) Q (3, [l0, l1], st, w, k, n) = WP (MX3_house g) Q (4, [l0, l1], .int 4 :: st, w, k, n) := iconst_e rfl dX3_house_3 (by decide)
theorem eX3_house_4 {z0 : Int32} {z1 : Int32} {z2 : Int32} : WP (MX3_house g) Q (4, [l0, l1], .int z2 :: .int z1 :: .int z0 :: st, w, k, n) = (wt st ≤ 8 ∧ k + 0 ≤ 2 ∧ n + 0 ≤ 9 ∧ WP (MX3_isIn g) (kx (fun v w' => WP (MX3_house g) Q (7, [l0, l1], v.toList ++ st, w', k + 0, n + 0)) (fun E w' => Q (.inr E) w')) (0, [some (.int z0), some (.int z1), some (.int z2)], [], w, 0, 0)) := csS (M := (MX3_house g)) (mc := (fun _ _ => 0)) (ms := (fun _ _ => 0)) (As := [.int z0, .int z1, .int z2]) (rest := st) (MX3_isIn g) rfl rfl dX3_house_4 (Nat.ne_of_beq_eq_false rfl) (by exact fun h => nomatch (show (none : Option Nat) = some 12 from h)) (by exact fun h => nomatch (show (none : Option Nat) = some 13 from h)) (by exact fun h => nomatch (show (none : Option Nat) = some 14 from h)) rfl rfl (by decide) (Nat.le_of_ble_eq_true rfl) (Nat.le_of_ble_eq_true rfl) rfl
theorem eX3_house_7 : WP (MX3_house g) Q (7, [l0, l1], .int a :: st, w, k, n) = if a = 0 then WP (MX3_house g) Q (10, [l0, l1], st, w, k, n) else WP (MX3_house g) Q (14, [l0, l1], st, w, k, n) := ifcn_e (a = 0) rfl dX3_house_7 rfl (by decide)
theorem eX3_house_10 : WP (MX3_house g) Q (10, [l0, l1], st, w, k, n) = WP (MX3_house g) Q (11, [l0, l1], .int 1 :: st, w, k, n) := iconst_e rfl dX3_house_10 (by decide)
theorem eX3_house_11 : WP (MX3_house g) Q (11, [l0, l1], st, w, k, n) = WP (MX3_house g) Q (15, [l0, l1], st, w, k, n) := goto_e rfl dX3_house_11 (by decide)
theorem eX3_house_14 : WP (MX3_house g) Q (14, [l0, l1], st, w, k, n) = WP (MX3_house g) Q (15, [l0, l1], .int 0 :: st, w, k, n) := iconst_e rfl dX3_house_14 (by decide)
theorem eX3_house_15 : WP (MX3_house g) Q (15, [l0, l1], st, w, k, n) = WP (MX3_house g) Q (16, [l0, l1], .int 1 :: st, w, k, n) := iconst_e rfl dX3_house_15 (by decide)
theorem eX3_house_16 {z0 : Int32} {z1 : Int32} : WP (MX3_house g) Q (16, [l0, l1], .int z1 :: .int z0 :: .ref p :: st, w, k, n) = (go (rd g w p) 7 (fun _ => True) ∧ wt st ≤ 8 ∧ k + 0 ≤ 2 ∧ n + 0 ≤ 9 ∧ WP (MX3_start g) (kx (fun v w' => WP (MX3_house g) Q (19, [l0, l1], v.toList ++ st, w', k + 0, n + 0)) (fun E w' => Q (.inr E) w')) (0, [some (.ref p), some (.int z0), some (.int z1)], [], w, 0, 0)) := csV (M := (MX3_house g)) (mc := (fun _ _ => 0)) (ms := (fun _ _ => 0)) (As := [.int z0, .int z1]) (rest := st) (MX3_start g) rfl rfl dX3_house_16 (by exact fun h => nomatch (show (none : Option Nat) = some 11 from h)) (by exact fun h => nomatch (show (none : Option Nat) = some 15 from h)) rfl rfl (by decide) (Nat.le_of_ble_eq_true rfl) (Nat.le_of_ble_eq_true rfl) rfl
theorem eX3_house_19 : WP (MX3_house g) Q (19, [l0, l1], .int a :: st, w, k, n) = if a = 0 then WP (MX3_house g) Q (26, [l0, l1], st, w, k, n) else WP (MX3_house g) Q (22, [l0, l1], st, w, k, n) := ifc_e (a = 0) rfl dX3_house_19 rfl (by decide)
theorem eX3_house_22 : WP (MX3_house g) Q (22, [l0, l1], st, w, k, n) = WP (MX3_house g) Q (23, [l0, l1], .int 0 :: st, w, k, n) := iconst_e rfl dX3_house_22 (by decide)
theorem eX3_house_23 : WP (MX3_house g) Q (23, [l0, l1], st, w, k, n) = WP (MX3_house g) Q (31, [l0, l1], st, w, k, n) := goto_e rfl dX3_house_23 (by decide)
theorem eX3_house_26 : WP (MX3_house g) Q (26, [some (.ref p), l1], st, w, k, n) = WP (MX3_house g) Q (27, [some (.ref p), l1], .ref p :: st, w, k, n) := Eq.trans (WP_at (M := (MX3_house g)) rfl dX3_house_26 (Or.inr rfl)) rfl
theorem eX3_house_26N : WP (MX3_house g) Q (26, [some .null, l1], st, w, k, n) = WP (MX3_house g) Q (27, [some .null, l1], .null :: st, w, k, n) := Eq.trans (WP_at (M := (MX3_house g)) rfl dX3_house_26 (Or.inr rfl)) rfl
theorem eX3_house_27 : WP (MX3_house g) Q (27, [l0, some (.int a)], st, w, k, n) = WP (MX3_house g) Q (28, [l0, some (.int a)], .int a :: st, w, k, n) := Eq.trans (WP_at (M := (MX3_house g)) rfl dX3_house_27 (Or.inr rfl)) rfl
theorem eX3_house_28 {z0 : Int32} : WP (MX3_house g) Q (28, [l0, l1], .int z0 :: .ref p :: st, w, k, n) = (go (rd g w p) 7 (fun _ => True) ∧ wt st ≤ 8 ∧ k + 2 ≤ 2 ∧ n + 9 ≤ 9 ∧ WP (MX3_houseNow g) (kx (fun v w' => WP (MX3_house g) Q (31, [l0, l1], v.toList ++ st, w', k + 2, n + 9)) (fun E w' => Q (.inr E) w')) (0, [some (.ref p), some (.int z0), none, none, none], [], w, 0, 0)) := csV (M := (MX3_house g)) (mc := (fun _ _ => 2)) (ms := (fun _ _ => 9)) (As := [.int z0]) (rest := st) (MX3_houseNow g) rfl rfl dX3_house_28 (by exact fun h => nomatch (show (none : Option Nat) = some 11 from h)) (by exact fun h => nomatch (show (none : Option Nat) = some 15 from h)) rfl rfl (by decide) (Nat.le_of_ble_eq_true rfl) (Nat.le_of_ble_eq_true rfl) rfl
theorem eX3_house_31 : WP (MX3_house g) Q (31, [l0, l1], [.int a], w, k, n) = (k ≤ 2 ∧ n ≤ 9 ∧ Q (.inl (some (.int a))) w) := iretI_e rfl dX3_house_31 rfl
end
theorem wk_1652 : (.code yX3_houseNow cX3_houseNow 5 (some .int) : Jvm.Cond) ∈ WS := WS_t7 154 rfl rfl
theorem wk_1649 : (.methodLink RX3 213 yX3_houseNow : Jvm.Cond) ∈ WS := WS_t7 151 rfl rfl
theorem wk_1651 : (.instanceMethod yX3_houseNow : Jvm.Cond) ∈ WS := WS_t7 153 rfl rfl
theorem wk_57 : (.selects RX3 yX3_houseNow yX3_houseNow : Jvm.Cond) ∈ WS := WS_at 57 (by decide +kernel) rfl
theorem vMX3_house {l : Launch} (hl : l.stackTraces = false) (G : GT) : vM l G (MX3_house (gg G)) := ⟨fun i c j h => lookup_all (l := (MX3_house (gg G)).fld) (P := fun i e => vFld RX3 i e.1 e.2) (all_n) i (c, j) h, fun i c fs h => lookup_all (l := (MX3_house (gg G)).new) (P := fun i e => vNew RX3 i e.1 e.2) (all_n) i (c, fs) h, lookup_all (l := (MX3_house (gg G)).anew) (P := fun i e => vANew RX3 i e) (all_n), lookup_all (l := (MX3_house (gg G)).lng) (P := fun i e => Jvm.Cond.constantLong RX3 i e ∈ WS) (all_n), lookup_all (l := (MX3_house (gg G)).thr) (P := fun i e => vThr RX3 cX3_house i e) (all_n), fun h => absurd rfl h, lookup_all (l := (MX3_house (gg G)).cal) (P := fun i e => vCal l G RX3 i e) (all_c (⟨cX3_isIn, 3, some .boolean, fun y hy => by subst hy; exact ⟨by decide, ⟨_, wk_1227, okX3_isIn hl, Or.inl ⟨Nat.ne_of_beq_eq_false rfl, rfl⟩⟩, wk_60, ⟨(by decide : yX3_isIn.cls ≠ "java/lang/invoke/MethodHandle"), (by decide : yX3_isIn.cls ≠ "java/lang/invoke/VarHandle")⟩, ⟨(by decide +kernel : (parseMethodDescriptor yX3_isIn.desc).map (fun d => d.parameters.length) = some 3), wk_1225, wk_1226⟩⟩⟩) (all_c (⟨cX3_start, 3, some .boolean, fun y hy => by subst hy; exact ⟨by decide, ⟨_, wk_1231, okX3_start hl, Or.inl ⟨Nat.ne_of_beq_eq_false rfl, rfl⟩⟩, wk_60, ⟨(by decide : yX3_start.cls ≠ "java/lang/invoke/MethodHandle"), (by decide : yX3_start.cls ≠ "java/lang/invoke/VarHandle")⟩, ⟨(by decide +kernel : (parseMethodDescriptor yX3_start.desc).map (fun d => d.parameters.length + 1) = some 3), wk_1228, wk_1230, wk_37, (RX3, TX3, 7), rfl, rfl⟩⟩⟩) (all_c (⟨cX3_houseNow, 5, some .int, fun y hy => by subst hy; exact ⟨by decide, ⟨_, wk_1652, okX3_houseNow hl, Or.inl ⟨Nat.ne_of_beq_eq_false rfl, rfl⟩⟩, wk_60, ⟨(by decide : yX3_houseNow.cls ≠ "java/lang/invoke/MethodHandle"), (by decide : yX3_houseNow.cls ≠ "java/lang/invoke/VarHandle")⟩, ⟨(by decide +kernel : (parseMethodDescriptor yX3_houseNow.desc).map (fun d => d.parameters.length + 1) = some 2), wk_1649, wk_1651, wk_57, (RX3, TX3, 7), rfl, rfl⟩⟩⟩) (all_n)))), lookup_all (l := (MX3_house (gg G)).stt) (P := fun i e => vStt G RX3 i e) (all_n), lookup_all (l := (MX3_house (gg G)).cst) (P := fun i e => vCst RX3 i e) (all_n), fun h => absurd rfl h, rfl, all_n⟩
theorem okX3_house {l : Launch} (hl : l.stackTraces = false) {G : GT} : ∀ (args : List Value) (w : Hw) (S : Ot → Hw → Prop), spOf (MX3_house (gg G)) args w S → CX l G yX3_house (.code yX3_house cX3_house 2 (some .int)) 4 2 9 args w S := CX_sp (M := MX3_house (gg G)) (y := yX3_house) hl (by decide) rfl (vMX3_house hl G) (fun h => by cases h) rfl
/-! RangecardModel.knock()I -/
theorem dX3_knock_0 : decode cX3_knock 0 = .ok (.aload_n 0, 1) := by decide +kernel
theorem dX3_knock_1 : decode cX3_knock 1 = .ok (.iconst 0, 1) := by decide +kernel
theorem dX3_knock_2 : decode cX3_knock 2 = .ok (.putfield 27, 3) := by decide +kernel
theorem dX3_knock_5 : decode cX3_knock 5 = .ok (.aload_n 0, 1) := by decide +kernel
theorem dX3_knock_6 : decode cX3_knock 6 = .ok (.dup, 1) := by decide +kernel
theorem dX3_knock_7 : decode cX3_knock 7 = .ok (.getfield 210, 3) := by decide +kernel
theorem dX3_knock_10 : decode cX3_knock 10 = .ok (.iconst 1, 1) := by decide +kernel
theorem dX3_knock_11 : decode cX3_knock 11 = .ok (.iadd, 1) := by decide +kernel
theorem dX3_knock_12 : decode cX3_knock 12 = .ok (.putfield 210, 3) := by decide +kernel
theorem dX3_knock_15 : decode cX3_knock 15 = .ok (.aload_n 0, 1) := by decide +kernel
theorem dX3_knock_16 : decode cX3_knock 16 = .ok (.getfield 210, 3) := by decide +kernel
theorem dX3_knock_19 : decode cX3_knock 19 = .ok (.ireturn, 1) := by decide +kernel
def MX3_knock (g : RO) : MT := ((RX3, cX3_knock, 1, 1, 0, 0, false, some .int), [(27, 7, 0), (210, 7, 5)], [], [], [], [], 0, [], [], [], 0, [], [], g)
section
variable {g : RO} {Q : Ot → Hw → Prop} {st : List Value} {w : Hw} {k n p q : Nat} {a b : Int32} {x y : Int64} {u v : Value} {l0 : Option Value}
theorem eX3_knock_0 : WP (MX3_knock g) Q (0, [some (.ref p)], st, w, k, n) = WP (MX3_knock g) Q (1, [some (.ref p)], .ref p :: st, w, k, n) := Eq.trans (WP_at (M := (MX3_knock g)) rfl dX3_knock_0 (Or.inr rfl)) rfl
theorem eX3_knock_0N : WP (MX3_knock g) Q (0, [some .null], st, w, k, n) = WP (MX3_knock g) Q (1, [some .null], .null :: st, w, k, n) := Eq.trans (WP_at (M := (MX3_knock g)) rfl dX3_knock_0 (Or.inr rfl)) rfl
theorem eX3_knock_1 : WP (MX3_knock g) Q (1, [l0], st, w, k, n) = WP (MX3_knock g) Q (2, [l0], .int 0 :: st, w, k, n) := iconst_e rfl dX3_knock_1 (by decide)
theorem eX3_knock_2 : WP (MX3_knock g) Q (2, [l0], v :: .ref p :: st, w, k, n) = go (w p) 7 fun fs => 0 < fs.length ∧ (narrow (.int) v = v ∧ fits (.int) v = true) ∧ WP (MX3_knock g) Q (5, [l0], st, upw w p (.inr (7, fs.set 0 v)), k, n) := put_e (q := (RX3, TX3, 7)) rfl dX3_knock_2 rfl rfl (tyX3_ok 0 (by decide)) (Or.inl rfl)
theorem eX3_knock_5 : WP (MX3_knock g) Q (5, [some (.ref p)], st, w, k, n) = WP (MX3_knock g) Q (6, [some (.ref p)], .ref p :: st, w, k, n) := Eq.trans (WP_at (M := (MX3_knock g)) rfl dX3_knock_5 (Or.inr rfl)) rfl
theorem eX3_knock_5N : WP (MX3_knock g) Q (5, [some .null], st, w, k, n) = WP (MX3_knock g) Q (6, [some .null], .null :: st, w, k, n) := Eq.trans (WP_at (M := (MX3_knock g)) rfl dX3_knock_5 (Or.inr rfl)) rfl
theorem eX3_knock_6 : WP (MX3_knock g) Q (6, [l0], .int a :: st, w, k, n) = WP (MX3_knock g) Q (7, [l0], .int a :: .int a :: st, w, k, n) := by rw [WP_at (M := (MX3_knock g)) rfl dX3_knock_6 (Or.inr rfl)]; exact and_t rfl
theorem eX3_knock_6R : WP (MX3_knock g) Q (6, [l0], .ref p :: st, w, k, n) = WP (MX3_knock g) Q (7, [l0], .ref p :: .ref p :: st, w, k, n) := by rw [WP_at (M := (MX3_knock g)) rfl dX3_knock_6 (Or.inr rfl)]; exact and_t rfl
theorem eX3_knock_7 : WP (MX3_knock g) Q (7, [l0], .ref p :: st, w, k, n) = go (rd g w p) 7 fun fs => ∃ v, fs[5]? = some v ∧ WP (MX3_knock g) Q (10, [l0], v :: st, w, k, n) := get_e rfl dX3_knock_7 rfl
theorem eX3_knock_10 : WP (MX3_knock g) Q (10, [l0], st, w, k, n) = WP (MX3_knock g) Q (11, [l0], .int 1 :: st, w, k, n) := iconst_e rfl dX3_knock_10 (by decide)
theorem eX3_knock_11 : WP (MX3_knock g) Q (11, [l0], .int b :: .int a :: st, w, k, n) = WP (MX3_knock g) Q (12, [l0], .int (a + b) :: st, w, k, n) := Eq.trans (WP_at (M := (MX3_knock g)) rfl dX3_knock_11 (Or.inr rfl)) rfl
theorem eX3_knock_12 : WP (MX3_knock g) Q (12, [l0], v :: .ref p :: st, w, k, n) = go (w p) 7 fun fs => 5 < fs.length ∧ (narrow (.int) v = v ∧ fits (.int) v = true) ∧ WP (MX3_knock g) Q (15, [l0], st, upw w p (.inr (7, fs.set 5 v)), k, n) := put_e (q := (RX3, TX3, 7)) rfl dX3_knock_12 rfl rfl (tyX3_ok 5 (by decide)) (Or.inl rfl)
theorem eX3_knock_15 : WP (MX3_knock g) Q (15, [some (.ref p)], st, w, k, n) = WP (MX3_knock g) Q (16, [some (.ref p)], .ref p :: st, w, k, n) := Eq.trans (WP_at (M := (MX3_knock g)) rfl dX3_knock_15 (Or.inr rfl)) rfl
theorem eX3_knock_15N : WP (MX3_knock g) Q (15, [some .null], st, w, k, n) = WP (MX3_knock g) Q (16, [some .null], .null :: st, w, k, n) := Eq.trans (WP_at (M := (MX3_knock g)) rfl dX3_knock_15 (Or.inr rfl)) rfl
theorem eX3_knock_16 : WP (MX3_knock g) Q (16, [l0], .ref p :: st, w, k, n) = go (rd g w p) 7 fun fs => ∃ v, fs[5]? = some v ∧ WP (MX3_knock g) Q (19, [l0], v :: st, w, k, n) := get_e rfl dX3_knock_16 rfl
theorem eX3_knock_19 : WP (MX3_knock g) Q (19, [l0], [.int a], w, k, n) = (k ≤ 0 ∧ n ≤ 0 ∧ Q (.inl (some (.int a))) w) := iretI_e rfl dX3_knock_19 rfl
end
theorem vMX3_knock {l : Launch} (hl : l.stackTraces = false) (G : GT) : vM l G (MX3_knock (gg G)) := ⟨fun i c j h => lookup_all (l := (MX3_knock (gg G)).fld) (P := fun i e => vFld RX3 i e.1 e.2) (all_c (vF_RX3_27) (all_c (vF_RX3_210) (all_n))) i (c, j) h, fun i c fs h => lookup_all (l := (MX3_knock (gg G)).new) (P := fun i e => vNew RX3 i e.1 e.2) (all_n) i (c, fs) h, lookup_all (l := (MX3_knock (gg G)).anew) (P := fun i e => vANew RX3 i e) (all_n), lookup_all (l := (MX3_knock (gg G)).lng) (P := fun i e => Jvm.Cond.constantLong RX3 i e ∈ WS) (all_n), lookup_all (l := (MX3_knock (gg G)).thr) (P := fun i e => vThr RX3 cX3_knock i e) (all_n), fun h => absurd rfl h, lookup_all (l := (MX3_knock (gg G)).cal) (P := fun i e => vCal l G RX3 i e) (all_n), lookup_all (l := (MX3_knock (gg G)).stt) (P := fun i e => vStt G RX3 i e) (all_n), lookup_all (l := (MX3_knock (gg G)).cst) (P := fun i e => vCst RX3 i e) (all_n), fun h => absurd rfl h, rfl, all_n⟩
theorem okX3_knock {l : Launch} (hl : l.stackTraces = false) {G : GT} : ∀ (args : List Value) (w : Hw) (S : Ot → Hw → Prop), spOf (MX3_knock (gg G)) args w S → CX l G yX3_knock (.code yX3_knock cX3_knock 1 (some .int)) 1 0 0 args w S := CX_sp (M := MX3_knock (gg G)) (y := yX3_knock) hl (by decide) rfl (vMX3_knock hl G) (fun h => by cases h) rfl
/-! RangecardModel.isSound()Z -/
theorem dX3_isSound_0 : decode cX3_isSound 0 = .ok (.aload_n 0, 1) := by decide +kernel
theorem dX3_isSound_1 : decode cX3_isSound 1 = .ok (.iconst 0, 1) := by decide +kernel
theorem dX3_isSound_2 : decode cX3_isSound 2 = .ok (.putfield 27, 3) := by decide +kernel
theorem dX3_isSound_5 : decode cX3_isSound 5 = .ok (.iconst 1, 1) := by decide +kernel
theorem dX3_isSound_6 : decode cX3_isSound 6 = .ok (.ireturn, 1) := by decide +kernel
def MX3_isSound (g : RO) : MT := ((RX3, cX3_isSound, 1, 1, 0, 0, false, some .boolean), [(27, 7, 0)], [], [], [], [], 0, [], [], [], 0, [], [], g)
section
variable {g : RO} {Q : Ot → Hw → Prop} {st : List Value} {w : Hw} {k n p q : Nat} {a b : Int32} {x y : Int64} {u v : Value} {l0 : Option Value}
theorem eX3_isSound_0 : WP (MX3_isSound g) Q (0, [some (.ref p)], st, w, k, n) = WP (MX3_isSound g) Q (1, [some (.ref p)], .ref p :: st, w, k, n) := Eq.trans (WP_at (M := (MX3_isSound g)) rfl dX3_isSound_0 (Or.inr rfl)) rfl
theorem eX3_isSound_0N : WP (MX3_isSound g) Q (0, [some .null], st, w, k, n) = WP (MX3_isSound g) Q (1, [some .null], .null :: st, w, k, n) := Eq.trans (WP_at (M := (MX3_isSound g)) rfl dX3_isSound_0 (Or.inr rfl)) rfl
theorem eX3_isSound_1 : WP (MX3_isSound g) Q (1, [l0], st, w, k, n) = WP (MX3_isSound g) Q (2, [l0], .int 0 :: st, w, k, n) := iconst_e rfl dX3_isSound_1 (by decide)
theorem eX3_isSound_2 : WP (MX3_isSound g) Q (2, [l0], v :: .ref p :: st, w, k, n) = go (w p) 7 fun fs => 0 < fs.length ∧ (narrow (.int) v = v ∧ fits (.int) v = true) ∧ WP (MX3_isSound g) Q (5, [l0], st, upw w p (.inr (7, fs.set 0 v)), k, n) := put_e (q := (RX3, TX3, 7)) rfl dX3_isSound_2 rfl rfl (tyX3_ok 0 (by decide)) (Or.inl rfl)
theorem eX3_isSound_5 : WP (MX3_isSound g) Q (5, [l0], st, w, k, n) = WP (MX3_isSound g) Q (6, [l0], .int 1 :: st, w, k, n) := iconst_e rfl dX3_isSound_5 (by decide)
theorem eX3_isSound_6 : WP (MX3_isSound g) Q (6, [l0], [.int a], w, k, n) = (narrow (.boolean) (.int a) = .int a ∧ k ≤ 0 ∧ n ≤ 0 ∧ Q (.inl (some (.int a))) w) := iret_e rfl dX3_isSound_6 rfl
end
theorem vMX3_isSound {l : Launch} (hl : l.stackTraces = false) (G : GT) : vM l G (MX3_isSound (gg G)) := ⟨fun i c j h => lookup_all (l := (MX3_isSound (gg G)).fld) (P := fun i e => vFld RX3 i e.1 e.2) (all_c (vF_RX3_27) (all_n)) i (c, j) h, fun i c fs h => lookup_all (l := (MX3_isSound (gg G)).new) (P := fun i e => vNew RX3 i e.1 e.2) (all_n) i (c, fs) h, lookup_all (l := (MX3_isSound (gg G)).anew) (P := fun i e => vANew RX3 i e) (all_n), lookup_all (l := (MX3_isSound (gg G)).lng) (P := fun i e => Jvm.Cond.constantLong RX3 i e ∈ WS) (all_n), lookup_all (l := (MX3_isSound (gg G)).thr) (P := fun i e => vThr RX3 cX3_isSound i e) (all_n), fun h => absurd rfl h, lookup_all (l := (MX3_isSound (gg G)).cal) (P := fun i e => vCal l G RX3 i e) (all_n), lookup_all (l := (MX3_isSound (gg G)).stt) (P := fun i e => vStt G RX3 i e) (all_n), lookup_all (l := (MX3_isSound (gg G)).cst) (P := fun i e => vCst RX3 i e) (all_n), fun h => absurd rfl h, rfl, all_n⟩
theorem okX3_isSound {l : Launch} (hl : l.stackTraces = false) {G : GT} : ∀ (args : List Value) (w : Hw) (S : Ot → Hw → Prop), spOf (MX3_isSound (gg G)) args w S → CX l G yX3_isSound (.code yX3_isSound cX3_isSound 1 (some .boolean)) 1 0 0 args w S := CX_sp (M := MX3_isSound (gg G)) (y := yX3_isSound) hl (by decide) rfl (vMX3_isSound hl G) (fun h => by cases h) rfl
/-! RangecardModel.add(JJ)J -/
theorem dX3_add_0 : decode cX3_add 0 = .ok (.lload_n 0, 1) := by decide +kernel
theorem dX3_add_1 : decode cX3_add 1 = .ok (.ldc2_w 216, 3) := by decide +kernel
theorem dX3_add_4 : decode cX3_add 4 = .ok (.lmul, 1) := by decide +kernel
theorem dX3_add_5 : decode cX3_add 5 = .ok (.lload_n 2, 1) := by decide +kernel
theorem dX3_add_6 : decode cX3_add 6 = .ok (.ladd, 1) := by decide +kernel
theorem dX3_add_7 : decode cX3_add 7 = .ok (.lreturn, 1) := by decide +kernel
def MX3_add (g : RO) : MT := ((RX3, cX3_add, 4, 1, 0, 0, false, some .long), [], [], [], [(216, 31)], [], 0, [], [], [], 0, [], [], g)
section
variable {g : RO} {Q : Ot → Hw → Prop} {st : List Value} {w : Hw} {k n p q : Nat} {a b : Int32} {x y : Int64} {u v : Value} {l0 l1 l2 l3 : Option Value}
theorem eX3_add_0 : WP (MX3_add g) Q (0, [some (.long x), l1, l2, l3], st, w, k, n) = WP (MX3_add g) Q (1, [some (.long x), l1, l2, l3], .long x :: st, w, k, n) := Eq.trans (WP_at (M := (MX3_add g)) rfl dX3_add_0 (Or.inr rfl)) rfl
theorem eX3_add_1 : WP (MX3_add g) Q (1, [l0, l1, l2, l3], st, w, k, n) = WP (MX3_add g) Q (4, [l0, l1, l2, l3], .long 31 :: st, w, k, n) := ldc2_e rfl dX3_add_1 rfl
theorem eX3_add_4 : WP (MX3_add g) Q (4, [l0, l1, l2, l3], .long y :: .long x :: st, w, k, n) = WP (MX3_add g) Q (5, [l0, l1, l2, l3], .long (x * y) :: st, w, k, n) := Eq.trans (WP_at (M := (MX3_add g)) rfl dX3_add_4 (Or.inr rfl)) rfl
theorem eX3_add_5 : WP (MX3_add g) Q (5, [l0, l1, some (.long x), l3], st, w, k, n) = WP (MX3_add g) Q (6, [l0, l1, some (.long x), l3], .long x :: st, w, k, n) := Eq.trans (WP_at (M := (MX3_add g)) rfl dX3_add_5 (Or.inr rfl)) rfl
theorem eX3_add_6 : WP (MX3_add g) Q (6, [l0, l1, l2, l3], .long y :: .long x :: st, w, k, n) = WP (MX3_add g) Q (7, [l0, l1, l2, l3], .long (x + y) :: st, w, k, n) := Eq.trans (WP_at (M := (MX3_add g)) rfl dX3_add_6 (Or.inr rfl)) rfl
theorem eX3_add_7 : WP (MX3_add g) Q (7, [l0, l1, l2, l3], [.long x], w, k, n) = (k ≤ 0 ∧ n ≤ 0 ∧ Q (.inl (some (.long x))) w) := lret_e rfl dX3_add_7 rfl
end
theorem wk_1670 : (.constantLong RX3 216 (31) : Jvm.Cond) ∈ WS := WS_t7 172 rfl rfl
theorem vMX3_add {l : Launch} (hl : l.stackTraces = false) (G : GT) : vM l G (MX3_add (gg G)) := ⟨fun i c j h => lookup_all (l := (MX3_add (gg G)).fld) (P := fun i e => vFld RX3 i e.1 e.2) (all_n) i (c, j) h, fun i c fs h => lookup_all (l := (MX3_add (gg G)).new) (P := fun i e => vNew RX3 i e.1 e.2) (all_n) i (c, fs) h, lookup_all (l := (MX3_add (gg G)).anew) (P := fun i e => vANew RX3 i e) (all_n), lookup_all (l := (MX3_add (gg G)).lng) (P := fun i e => Jvm.Cond.constantLong RX3 i e ∈ WS) (all_c (wk_1670) (all_n)), lookup_all (l := (MX3_add (gg G)).thr) (P := fun i e => vThr RX3 cX3_add i e) (all_n), fun h => absurd rfl h, lookup_all (l := (MX3_add (gg G)).cal) (P := fun i e => vCal l G RX3 i e) (all_n), lookup_all (l := (MX3_add (gg G)).stt) (P := fun i e => vStt G RX3 i e) (all_n), lookup_all (l := (MX3_add (gg G)).cst) (P := fun i e => vCst RX3 i e) (all_n), fun h => absurd rfl h, rfl, all_n⟩
theorem okX3_add {l : Launch} (hl : l.stackTraces = false) {G : GT} : ∀ (args : List Value) (w : Hw) (S : Ot → Hw → Prop), spOf (MX3_add (gg G)) args w S → CX l G yX3_add (.code yX3_add cX3_add 4 (some .long)) 1 0 0 args w S := CX_sp (M := MX3_add (gg G)) (y := yX3_add) hl (by decide) rfl (vMX3_add hl G) (fun h => by cases h) rfl
/-! RangecardModel.digest()J -/
theorem dX3_digest_0 : decode cX3_digest 0 = .ok (.aload_n 0, 1) := by decide +kernel
theorem dX3_digest_1 : decode cX3_digest 1 = .ok (.iconst 0, 1) := by decide +kernel
theorem dX3_digest_2 : decode cX3_digest 2 = .ok (.putfield 27, 3) := by decide +kernel
theorem dX3_digest_5 : decode cX3_digest 5 = .ok (.ldc2_w 218, 3) := by decide +kernel
theorem dX3_digest_8 : decode cX3_digest 8 = .ok (.lstore_n 1, 1) := by decide +kernel
theorem dX3_digest_9 : decode cX3_digest 9 = .ok (.iconst 0, 1) := by decide +kernel
theorem dX3_digest_10 : decode cX3_digest 10 = .ok (.istore_n 3, 1) := by decide +kernel
theorem dX3_digest_11 : decode cX3_digest 11 = .ok (.iload_n 3, 1) := by decide +kernel
theorem dX3_digest_12 : decode cX3_digest 12 = .ok (.iconst 4, 1) := by decide +kernel
theorem dX3_digest_13 : decode cX3_digest 13 = .ok (.if_icmp .gt 20, 3) := by decide +kernel
theorem dX3_digest_16 : decode cX3_digest 16 = .ok (.lload_n 1, 1) := by decide +kernel
theorem dX3_digest_17 : decode cX3_digest 17 = .ok (.aload_n 0, 1) := by decide +kernel
theorem dX3_digest_18 : decode cX3_digest 18 = .ok (.iload_n 3, 1) := by decide +kernel
theorem dX3_digest_19 : decode cX3_digest 19 = .ok (.invokevirtual 213, 3) := by decide +kernel
theorem dX3_digest_22 : decode cX3_digest 22 = .ok (.i2l, 1) := by decide +kernel
theorem dX3_digest_23 : decode cX3_digest 23 = .ok (.invokestatic 220, 3) := by decide +kernel
theorem dX3_digest_26 : decode cX3_digest 26 = .ok (.lstore_n 1, 1) := by decide +kernel
theorem dX3_digest_27 : decode cX3_digest 27 = .ok (.iinc 3 1, 3) := by decide +kernel
theorem dX3_digest_30 : decode cX3_digest 30 = .ok (.goto (-19), 3) := by decide +kernel
theorem dX3_digest_33 : decode cX3_digest 33 = .ok (.iconst 0, 1) := by decide +kernel
theorem dX3_digest_34 : decode cX3_digest 34 = .ok (.istore_n 3, 1) := by decide +kernel
theorem dX3_digest_35 : decode cX3_digest 35 = .ok (.iload_n 3, 1) := by decide +kernel
theorem dX3_digest_36 : decode cX3_digest 36 = .ok (.bipush 8, 2) := by decide +kernel
theorem dX3_digest_38 : decode cX3_digest 38 = .ok (.if_icmp .ge 57, 3) := by decide +kernel
theorem dX3_digest_41 : decode cX3_digest 41 = .ok (.lload_n 1, 1) := by decide +kernel
theorem dX3_digest_42 : decode cX3_digest 42 = .ok (.aload_n 0, 1) := by decide +kernel
theorem dX3_digest_43 : decode cX3_digest 43 = .ok (.getfield 9, 3) := by decide +kernel
theorem dX3_digest_46 : decode cX3_digest 46 = .ok (.iload_n 3, 1) := by decide +kernel
theorem dX3_digest_47 : decode cX3_digest 47 = .ok (.laload, 1) := by decide +kernel
theorem dX3_digest_48 : decode cX3_digest 48 = .ok (.invokestatic 57, 3) := by decide +kernel
theorem dX3_digest_51 : decode cX3_digest 51 = .ok (.i2l, 1) := by decide +kernel
theorem dX3_digest_52 : decode cX3_digest 52 = .ok (.invokestatic 220, 3) := by decide +kernel
theorem dX3_digest_55 : decode cX3_digest 55 = .ok (.aload_n 0, 1) := by decide +kernel
theorem dX3_digest_56 : decode cX3_digest 56 = .ok (.getfield 9, 3) := by decide +kernel
theorem dX3_digest_59 : decode cX3_digest 59 = .ok (.iload_n 3, 1) := by decide +kernel
theorem dX3_digest_60 : decode cX3_digest 60 = .ok (.laload, 1) := by decide +kernel
theorem dX3_digest_61 : decode cX3_digest 61 = .ok (.invokestatic 61, 3) := by decide +kernel
theorem dX3_digest_64 : decode cX3_digest 64 = .ok (.i2l, 1) := by decide +kernel
theorem dX3_digest_65 : decode cX3_digest 65 = .ok (.invokestatic 220, 3) := by decide +kernel
theorem dX3_digest_68 : decode cX3_digest 68 = .ok (.aload_n 0, 1) := by decide +kernel
theorem dX3_digest_69 : decode cX3_digest 69 = .ok (.iload_n 3, 1) := by decide +kernel
theorem dX3_digest_70 : decode cX3_digest 70 = .ok (.iconst 0, 1) := by decide +kernel
theorem dX3_digest_71 : decode cX3_digest 71 = .ok (.invokevirtual 164, 3) := by decide +kernel
theorem dX3_digest_74 : decode cX3_digest 74 = .ok (.i2l, 1) := by decide +kernel
theorem dX3_digest_75 : decode cX3_digest 75 = .ok (.invokestatic 220, 3) := by decide +kernel
theorem dX3_digest_78 : decode cX3_digest 78 = .ok (.aload_n 0, 1) := by decide +kernel
theorem dX3_digest_79 : decode cX3_digest 79 = .ok (.iload_n 3, 1) := by decide +kernel
theorem dX3_digest_80 : decode cX3_digest 80 = .ok (.iconst 1, 1) := by decide +kernel
theorem dX3_digest_81 : decode cX3_digest 81 = .ok (.invokevirtual 164, 3) := by decide +kernel
theorem dX3_digest_84 : decode cX3_digest 84 = .ok (.i2l, 1) := by decide +kernel
theorem dX3_digest_85 : decode cX3_digest 85 = .ok (.invokestatic 220, 3) := by decide +kernel
theorem dX3_digest_88 : decode cX3_digest 88 = .ok (.lstore_n 1, 1) := by decide +kernel
theorem dX3_digest_89 : decode cX3_digest 89 = .ok (.iinc 3 1, 3) := by decide +kernel
theorem dX3_digest_92 : decode cX3_digest 92 = .ok (.goto (-57), 3) := by decide +kernel
theorem dX3_digest_95 : decode cX3_digest 95 = .ok (.iconst 0, 1) := by decide +kernel
theorem dX3_digest_96 : decode cX3_digest 96 = .ok (.istore_n 3, 1) := by decide +kernel
theorem dX3_digest_97 : decode cX3_digest 97 = .ok (.iload_n 3, 1) := by decide +kernel
theorem dX3_digest_98 : decode cX3_digest 98 = .ok (.bipush 6, 2) := by decide +kernel
theorem dX3_digest_100 : decode cX3_digest 100 = .ok (.if_icmp .ge 214, 3) := by decide +kernel
theorem dX3_digest_103 : decode cX3_digest 103 = .ok (.lload_n 1, 1) := by decide +kernel
theorem dX3_digest_104 : decode cX3_digest 104 = .ok (.aload_n 0, 1) := by decide +kernel
theorem dX3_digest_105 : decode cX3_digest 105 = .ok (.iload_n 3, 1) := by decide +kernel
theorem dX3_digest_106 : decode cX3_digest 106 = .ok (.invokevirtual 118, 3) := by decide +kernel
theorem dX3_digest_109 : decode cX3_digest 109 = .ok (.ifCond .ne 7, 3) := by decide +kernel
theorem dX3_digest_112 : decode cX3_digest 112 = .ok (.iconst 1, 1) := by decide +kernel
theorem dX3_digest_113 : decode cX3_digest 113 = .ok (.goto 4, 3) := by decide +kernel
theorem dX3_digest_116 : decode cX3_digest 116 = .ok (.iconst 0, 1) := by decide +kernel
theorem dX3_digest_117 : decode cX3_digest 117 = .ok (.invokestatic 92, 3) := by decide +kernel
theorem dX3_digest_120 : decode cX3_digest 120 = .ok (.i2l, 1) := by decide +kernel
theorem dX3_digest_121 : decode cX3_digest 121 = .ok (.invokestatic 220, 3) := by decide +kernel
theorem dX3_digest_124 : decode cX3_digest 124 = .ok (.lstore_n 1, 1) := by decide +kernel
theorem dX3_digest_125 : decode cX3_digest 125 = .ok (.aload_n 0, 1) := by decide +kernel
theorem dX3_digest_126 : decode cX3_digest 126 = .ok (.iload_n 3, 1) := by decide +kernel
theorem dX3_digest_127 : decode cX3_digest 127 = .ok (.invokevirtual 118, 3) := by decide +kernel
theorem dX3_digest_130 : decode cX3_digest 130 = .ok (.ifCond .eq 6, 3) := by decide +kernel
theorem dX3_digest_133 : decode cX3_digest 133 = .ok (.goto 175, 3) := by decide +kernel
theorem dX3_digest_136 : decode cX3_digest 136 = .ok (.aload_n 0, 1) := by decide +kernel
theorem dX3_digest_137 : decode cX3_digest 137 = .ok (.getfield 16, 3) := by decide +kernel
theorem dX3_digest_140 : decode cX3_digest 140 = .ok (.iload_n 3, 1) := by decide +kernel
theorem dX3_digest_141 : decode cX3_digest 141 = .ok (.invokevirtual 42, 3) := by decide +kernel
theorem dX3_digest_144 : decode cX3_digest 144 = .ok (.checkcast 125, 3) := by decide +kernel
theorem dX3_digest_147 : decode cX3_digest 147 = .ok (.astore 4, 2) := by decide +kernel
theorem dX3_digest_149 : decode cX3_digest 149 = .ok (.iconst 0, 1) := by decide +kernel
theorem dX3_digest_150 : decode cX3_digest 150 = .ok (.istore 5, 2) := by decide +kernel
theorem dX3_digest_152 : decode cX3_digest 152 = .ok (.iload 5, 2) := by decide +kernel
theorem dX3_digest_154 : decode cX3_digest 154 = .ok (.iconst 4, 1) := by decide +kernel
theorem dX3_digest_155 : decode cX3_digest 155 = .ok (.if_icmp .ge 59, 3) := by decide +kernel
theorem dX3_digest_158 : decode cX3_digest 158 = .ok (.lload_n 1, 1) := by decide +kernel
theorem dX3_digest_159 : decode cX3_digest 159 = .ok (.aload 4, 2) := by decide +kernel
theorem dX3_digest_161 : decode cX3_digest 161 = .ok (.iload 5, 2) := by decide +kernel
theorem dX3_digest_163 : decode cX3_digest 163 = .ok (.laload, 1) := by decide +kernel
theorem dX3_digest_164 : decode cX3_digest 164 = .ok (.invokestatic 57, 3) := by decide +kernel
theorem dX3_digest_167 : decode cX3_digest 167 = .ok (.i2l, 1) := by decide +kernel
theorem dX3_digest_168 : decode cX3_digest 168 = .ok (.invokestatic 220, 3) := by decide +kernel
theorem dX3_digest_171 : decode cX3_digest 171 = .ok (.aload 4, 2) := by decide +kernel
theorem dX3_digest_173 : decode cX3_digest 173 = .ok (.iload 5, 2) := by decide +kernel
theorem dX3_digest_175 : decode cX3_digest 175 = .ok (.laload, 1) := by decide +kernel
theorem dX3_digest_176 : decode cX3_digest 176 = .ok (.invokestatic 61, 3) := by decide +kernel
theorem dX3_digest_179 : decode cX3_digest 179 = .ok (.i2l, 1) := by decide +kernel
theorem dX3_digest_180 : decode cX3_digest 180 = .ok (.invokestatic 220, 3) := by decide +kernel
theorem dX3_digest_183 : decode cX3_digest 183 = .ok (.aload 4, 2) := by decide +kernel
theorem dX3_digest_185 : decode cX3_digest 185 = .ok (.iload 5, 2) := by decide +kernel
theorem dX3_digest_187 : decode cX3_digest 187 = .ok (.iconst 0, 1) := by decide +kernel
theorem dX3_digest_188 : decode cX3_digest 188 = .ok (.invokestatic 160, 3) := by decide +kernel
theorem dX3_digest_191 : decode cX3_digest 191 = .ok (.i2l, 1) := by decide +kernel
theorem dX3_digest_192 : decode cX3_digest 192 = .ok (.invokestatic 220, 3) := by decide +kernel
theorem dX3_digest_195 : decode cX3_digest 195 = .ok (.aload 4, 2) := by decide +kernel
theorem dX3_digest_197 : decode cX3_digest 197 = .ok (.iload 5, 2) := by decide +kernel
theorem dX3_digest_199 : decode cX3_digest 199 = .ok (.iconst 1, 1) := by decide +kernel
theorem dX3_digest_200 : decode cX3_digest 200 = .ok (.invokestatic 160, 3) := by decide +kernel
theorem dX3_digest_203 : decode cX3_digest 203 = .ok (.i2l, 1) := by decide +kernel
theorem dX3_digest_204 : decode cX3_digest 204 = .ok (.invokestatic 220, 3) := by decide +kernel
theorem dX3_digest_207 : decode cX3_digest 207 = .ok (.lstore_n 1, 1) := by decide +kernel
theorem dX3_digest_208 : decode cX3_digest 208 = .ok (.iinc 5 1, 3) := by decide +kernel
theorem dX3_digest_211 : decode cX3_digest 211 = .ok (.goto (-59), 3) := by decide +kernel
theorem dX3_digest_214 : decode cX3_digest 214 = .ok (.lload_n 1, 1) := by decide +kernel
theorem dX3_digest_215 : decode cX3_digest 215 = .ok (.aload 4, 2) := by decide +kernel
theorem dX3_digest_217 : decode cX3_digest 217 = .ok (.invokestatic 130, 3) := by decide +kernel
theorem dX3_digest_220 : decode cX3_digest 220 = .ok (.invokestatic 92, 3) := by decide +kernel
theorem dX3_digest_223 : decode cX3_digest 223 = .ok (.i2l, 1) := by decide +kernel
theorem dX3_digest_224 : decode cX3_digest 224 = .ok (.invokestatic 220, 3) := by decide +kernel
theorem dX3_digest_227 : decode cX3_digest 227 = .ok (.aload 4, 2) := by decide +kernel
theorem dX3_digest_229 : decode cX3_digest 229 = .ok (.invokestatic 137, 3) := by decide +kernel
theorem dX3_digest_232 : decode cX3_digest 232 = .ok (.invokestatic 92, 3) := by decide +kernel
theorem dX3_digest_235 : decode cX3_digest 235 = .ok (.i2l, 1) := by decide +kernel
theorem dX3_digest_236 : decode cX3_digest 236 = .ok (.invokestatic 220, 3) := by decide +kernel
theorem dX3_digest_239 : decode cX3_digest 239 = .ok (.aload_n 0, 1) := by decide +kernel
theorem dX3_digest_240 : decode cX3_digest 240 = .ok (.iload_n 3, 1) := by decide +kernel
theorem dX3_digest_241 : decode cX3_digest 241 = .ok (.invokevirtual 171, 3) := by decide +kernel
theorem dX3_digest_244 : decode cX3_digest 244 = .ok (.i2l, 1) := by decide +kernel
theorem dX3_digest_245 : decode cX3_digest 245 = .ok (.invokestatic 220, 3) := by decide +kernel
theorem dX3_digest_248 : decode cX3_digest 248 = .ok (.lstore_n 1, 1) := by decide +kernel
theorem dX3_digest_249 : decode cX3_digest 249 = .ok (.lload_n 1, 1) := by decide +kernel
theorem dX3_digest_250 : decode cX3_digest 250 = .ok (.aload_n 0, 1) := by decide +kernel
theorem dX3_digest_251 : decode cX3_digest 251 = .ok (.iload_n 3, 1) := by decide +kernel
theorem dX3_digest_252 : decode cX3_digest 252 = .ok (.iconst 0, 1) := by decide +kernel
theorem dX3_digest_253 : decode cX3_digest 253 = .ok (.invokevirtual 177, 3) := by decide +kernel
theorem dX3_digest_256 : decode cX3_digest 256 = .ok (.i2l, 1) := by decide +kernel
theorem dX3_digest_257 : decode cX3_digest 257 = .ok (.invokestatic 220, 3) := by decide +kernel
theorem dX3_digest_260 : decode cX3_digest 260 = .ok (.aload_n 0, 1) := by decide +kernel
theorem dX3_digest_261 : decode cX3_digest 261 = .ok (.iload_n 3, 1) := by decide +kernel
theorem dX3_digest_262 : decode cX3_digest 262 = .ok (.iconst 1, 1) := by decide +kernel
theorem dX3_digest_263 : decode cX3_digest 263 = .ok (.invokevirtual 177, 3) := by decide +kernel
theorem dX3_digest_266 : decode cX3_digest 266 = .ok (.i2l, 1) := by decide +kernel
theorem dX3_digest_267 : decode cX3_digest 267 = .ok (.invokestatic 220, 3) := by decide +kernel
theorem dX3_digest_270 : decode cX3_digest 270 = .ok (.aload_n 0, 1) := by decide +kernel
theorem dX3_digest_271 : decode cX3_digest 271 = .ok (.iload_n 3, 1) := by decide +kernel
theorem dX3_digest_272 : decode cX3_digest 272 = .ok (.invokevirtual 195, 3) := by decide +kernel
theorem dX3_digest_275 : decode cX3_digest 275 = .ok (.i2l, 1) := by decide +kernel
theorem dX3_digest_276 : decode cX3_digest 276 = .ok (.invokestatic 220, 3) := by decide +kernel
theorem dX3_digest_279 : decode cX3_digest 279 = .ok (.lstore_n 1, 1) := by decide +kernel
theorem dX3_digest_280 : decode cX3_digest 280 = .ok (.iconst (-1), 1) := by decide +kernel
theorem dX3_digest_281 : decode cX3_digest 281 = .ok (.istore 5, 2) := by decide +kernel
theorem dX3_digest_283 : decode cX3_digest 283 = .ok (.iload 5, 2) := by decide +kernel
theorem dX3_digest_285 : decode cX3_digest 285 = .ok (.iconst 1, 1) := by decide +kernel
theorem dX3_digest_286 : decode cX3_digest 286 = .ok (.if_icmp .gt 22, 3) := by decide +kernel
theorem dX3_digest_289 : decode cX3_digest 289 = .ok (.lload_n 1, 1) := by decide +kernel
theorem dX3_digest_290 : decode cX3_digest 290 = .ok (.aload 4, 2) := by decide +kernel
theorem dX3_digest_292 : decode cX3_digest 292 = .ok (.iload 5, 2) := by decide +kernel
theorem dX3_digest_294 : decode cX3_digest 294 = .ok (.invokestatic 156, 3) := by decide +kernel
theorem dX3_digest_297 : decode cX3_digest 297 = .ok (.i2l, 1) := by decide +kernel
theorem dX3_digest_298 : decode cX3_digest 298 = .ok (.invokestatic 220, 3) := by decide +kernel
theorem dX3_digest_301 : decode cX3_digest 301 = .ok (.lstore_n 1, 1) := by decide +kernel
theorem dX3_digest_302 : decode cX3_digest 302 = .ok (.iinc 5 1, 3) := by decide +kernel
theorem dX3_digest_305 : decode cX3_digest 305 = .ok (.goto (-22), 3) := by decide +kernel
theorem dX3_digest_308 : decode cX3_digest 308 = .ok (.iinc 3 1, 3) := by decide +kernel
theorem dX3_digest_311 : decode cX3_digest 311 = .ok (.goto (-214), 3) := by decide +kernel
theorem dX3_digest_314 : decode cX3_digest 314 = .ok (.iconst 0, 1) := by decide +kernel
theorem dX3_digest_315 : decode cX3_digest 315 = .ok (.istore_n 3, 1) := by decide +kernel
theorem dX3_digest_316 : decode cX3_digest 316 = .ok (.iload_n 3, 1) := by decide +kernel
theorem dX3_digest_317 : decode cX3_digest 317 = .ok (.iconst 2, 1) := by decide +kernel
theorem dX3_digest_318 : decode cX3_digest 318 = .ok (.if_icmp .gt 20, 3) := by decide +kernel
theorem dX3_digest_321 : decode cX3_digest 321 = .ok (.lload_n 1, 1) := by decide +kernel
theorem dX3_digest_322 : decode cX3_digest 322 = .ok (.aload_n 0, 1) := by decide +kernel
theorem dX3_digest_323 : decode cX3_digest 323 = .ok (.iload_n 3, 1) := by decide +kernel
theorem dX3_digest_324 : decode cX3_digest 324 = .ok (.invokevirtual 168, 3) := by decide +kernel
theorem dX3_digest_327 : decode cX3_digest 327 = .ok (.i2l, 1) := by decide +kernel
theorem dX3_digest_328 : decode cX3_digest 328 = .ok (.invokestatic 220, 3) := by decide +kernel
theorem dX3_digest_331 : decode cX3_digest 331 = .ok (.lstore_n 1, 1) := by decide +kernel
theorem dX3_digest_332 : decode cX3_digest 332 = .ok (.iinc 3 1, 3) := by decide +kernel
theorem dX3_digest_335 : decode cX3_digest 335 = .ok (.goto (-19), 3) := by decide +kernel
theorem dX3_digest_338 : decode cX3_digest 338 = .ok (.iconst 0, 1) := by decide +kernel
theorem dX3_digest_339 : decode cX3_digest 339 = .ok (.istore_n 3, 1) := by decide +kernel
theorem dX3_digest_340 : decode cX3_digest 340 = .ok (.iload_n 3, 1) := by decide +kernel
theorem dX3_digest_341 : decode cX3_digest 341 = .ok (.iconst 5, 1) := by decide +kernel
theorem dX3_digest_342 : decode cX3_digest 342 = .ok (.if_icmp .gt 21, 3) := by decide +kernel
theorem dX3_digest_345 : decode cX3_digest 345 = .ok (.lload_n 1, 1) := by decide +kernel
theorem dX3_digest_346 : decode cX3_digest 346 = .ok (.aload_n 0, 1) := by decide +kernel
theorem dX3_digest_347 : decode cX3_digest 347 = .ok (.iconst 0, 1) := by decide +kernel
theorem dX3_digest_348 : decode cX3_digest 348 = .ok (.iload_n 3, 1) := by decide +kernel
theorem dX3_digest_349 : decode cX3_digest 349 = .ok (.invokevirtual 207, 3) := by decide +kernel
theorem dX3_digest_352 : decode cX3_digest 352 = .ok (.i2l, 1) := by decide +kernel
theorem dX3_digest_353 : decode cX3_digest 353 = .ok (.invokestatic 220, 3) := by decide +kernel
theorem dX3_digest_356 : decode cX3_digest 356 = .ok (.lstore_n 1, 1) := by decide +kernel
theorem dX3_digest_357 : decode cX3_digest 357 = .ok (.iinc 3 1, 3) := by decide +kernel
theorem dX3_digest_360 : decode cX3_digest 360 = .ok (.goto (-20), 3) := by decide +kernel
theorem dX3_digest_363 : decode cX3_digest 363 = .ok (.lload_n 1, 1) := by decide +kernel
theorem dX3_digest_364 : decode cX3_digest 364 = .ok (.lconst 1, 1) := by decide +kernel
theorem dX3_digest_365 : decode cX3_digest 365 = .ok (.invokestatic 220, 3) := by decide +kernel
theorem dX3_digest_368 : decode cX3_digest 368 = .ok (.lreturn, 1) := by decide +kernel
def MX3_digest (g : RO) : MT := ((RX3, cX3_digest, 6, 6, 90, 520, false, some .long), [(27, 7, 0), (9, 7, 1), (16, 7, 2)], [], [], [(218, 7783)], [], 0, [(213, 2, 2, 7, 3, (fun _ _ => 2), (fun _ _ => 9), yX3_houseNow, spOf (MX3_houseNow g)), (220, 0, 2, 0, 1, (fun _ _ => 0), (fun _ _ => 0), yX3_add, spOf (MX3_add g)), (57, 0, 1, 0, 1, (fun _ _ => 0), (fun _ _ => 0), yX3_high, spOf (MX3_high g)), (61, 0, 1, 0, 1, (fun _ _ => 0), (fun _ _ => 0), yX3_low, spOf (MX3_low g)), (164, 2, 3, 7, 5, (fun _ _ => 0), (fun _ _ => 0), yX3_whoNow, spOf (MX3_whoNow g)), (118, 2, 2, 7, 4, (fun _ _ => 0), (fun _ _ => 0), yX3_isBare, spOf (MX3_isBare g)), (92, 0, 1, 0, 1, (fun _ _ => 0), (fun _ _ => 0), yX3_one, spOf (MX3_one g)), (42, 2, 2, 3, 3, (fun _ _ => 0), (fun _ _ => 0), yJx4a65c_get_915e3, spOf (MJx4a65c_get_915e3 g)), (160, 0, 3, 0, 3, (fun _ _ => 0), (fun _ _ => 0), yX3_aroundNow, spOf (MX3_aroundNow g)), (130, 0, 1, 0, 1, (fun _ _ => 0), (fun _ _ => 0), yX3_fixed, spOf (MX3_fixed g)), (137, 0, 1, 0, 1, (fun _ _ => 0), (fun _ _ => 0), yX3_small, spOf (MX3_small g)), (171, 2, 2, 7, 5, (fun _ _ => 0), (fun _ _ => 0), yX3_likesNow, spOf (MX3_likesNow g)), (177, 2, 3, 7, 4, (fun _ _ => 0), (fun _ _ => 0), yX3_seekNow, spOf (MX3_seekNow g)), (195, 2, 2, 7, 4, (fun _ _ => 1), (fun _ _ => 4), yX3_oftenNow, spOf (MX3_oftenNow g)), (156, 0, 2, 0, 3, (fun _ _ => 0), (fun _ _ => 0), yX3_whichNow, spOf (MX3_whichNow g)), (168, 2, 2, 7, 5, (fun _ _ => 0), (fun _ _ => 0), yX3_whichNow_, spOf (MX3_whichNow_ g)), (207, 2, 3, 7, 5, (fun _ _ => 12), (fun _ _ => 72), yX3_pileNow, spOf (MX3_pileNow g))], [], [(125, 0)], 0, [], [], g)
section
variable {g : RO} {Q : Ot → Hw → Prop} {st : List Value} {w : Hw} {k n p q : Nat} {a b : Int32} {x y : Int64} {u v : Value} {l0 l1 l2 l3 l4 l5 : Option Value}
theorem eX3_digest_0 : WP (MX3_digest g) Q (0, [some (.ref p), l1, l2, l3, l4, l5], st, w, k, n) = WP (MX3_digest g) Q (1, [some (.ref p), l1, l2, l3, l4, l5], .ref p :: st, w, k, n) := Eq.trans (WP_at (M := (MX3_digest g)) rfl dX3_digest_0 (Or.inr rfl)) rfl
theorem eX3_digest_0N : WP (MX3_digest g) Q (0, [some .null, l1, l2, l3, l4, l5], st, w, k, n) = WP (MX3_digest g) Q (1, [some .null, l1, l2, l3, l4, l5], .null :: st, w, k, n) := Eq.trans (WP_at (M := (MX3_digest g)) rfl dX3_digest_0 (Or.inr rfl)) rfl
theorem eX3_digest_1 : WP (MX3_digest g) Q (1, [l0, l1, l2, l3, l4, l5], st, w, k, n) = WP (MX3_digest g) Q (2, [l0, l1, l2, l3, l4, l5], .int 0 :: st, w, k, n) := iconst_e rfl dX3_digest_1 (by decide)
theorem eX3_digest_2 : WP (MX3_digest g) Q (2, [l0, l1, l2, l3, l4, l5], v :: .ref p :: st, w, k, n) = go (w p) 7 fun fs => 0 < fs.length ∧ (narrow (.int) v = v ∧ fits (.int) v = true) ∧ WP (MX3_digest g) Q (5, [l0, l1, l2, l3, l4, l5], st, upw w p (.inr (7, fs.set 0 v)), k, n) := put_e (q := (RX3, TX3, 7)) rfl dX3_digest_2 rfl rfl (tyX3_ok 0 (by decide)) (Or.inl rfl)
theorem eX3_digest_5 : WP (MX3_digest g) Q (5, [l0, l1, l2, l3, l4, l5], st, w, k, n) = WP (MX3_digest g) Q (8, [l0, l1, l2, l3, l4, l5], .long 7783 :: st, w, k, n) := ldc2_e rfl dX3_digest_5 rfl
theorem eX3_digest_8 : WP (MX3_digest g) Q (8, [l0, l1, l2, l3, l4, l5], .long x :: st, w, k, n) = WP (MX3_digest g) Q (9, [nl l0, some (.long x), none, l3, l4, l5], st, w, k, n) := by rw [WP_at (M := (MX3_digest g)) rfl dX3_digest_8 (Or.inr rfl)]; exact and_t (Nat.le_of_ble_eq_true rfl)
theorem eX3_digest_9 : WP (MX3_digest g) Q (9, [l0, l1, l2, l3, l4, l5], st, w, k, n) = WP (MX3_digest g) Q (10, [l0, l1, l2, l3, l4, l5], .int 0 :: st, w, k, n) := iconst_e rfl dX3_digest_9 (by decide)
theorem eX3_digest_10 : WP (MX3_digest g) Q (10, [l0, l1, l2, l3, l4, l5], .int a :: st, w, k, n) = WP (MX3_digest g) Q (11, [l0, l1, nl l2, some (.int a), l4, l5], st, w, k, n) := by rw [WP_at (M := (MX3_digest g)) rfl dX3_digest_10 (Or.inr rfl)]; exact and_t (Nat.le_of_ble_eq_true rfl)
theorem eX3_digest_11 : WP (MX3_digest g) Q (11, [l0, l1, l2, some (.int a), l4, l5], st, w, k, n) = WP (MX3_digest g) Q (12, [l0, l1, l2, some (.int a), l4, l5], .int a :: st, w, k, n) := Eq.trans (WP_at (M := (MX3_digest g)) rfl dX3_digest_11 (Or.inr rfl)) rfl
theorem eX3_digest_12 : WP (MX3_digest g) Q (12, [l0, l1, l2, l3, l4, l5], st, w, k, n) = WP (MX3_digest g) Q (13, [l0, l1, l2, l3, l4, l5], .int 4 :: st, w, k, n) := iconst_e rfl dX3_digest_12 (by decide)
theorem eX3_digest_13 : WP (MX3_digest g) Q (13, [l0, l1, l2, l3, l4, l5], .int b :: .int a :: st, w, k, n) = if b < a then WP (MX3_digest g) Q (33, [l0, l1, l2, l3, l4, l5], st, w, k, n) else WP (MX3_digest g) Q (16, [l0, l1, l2, l3, l4, l5], st, w, k, n) := icm_e (b < a) rfl dX3_digest_13 rfl (by decide)
theorem eX3_digest_16 : WP (MX3_digest g) Q (16, [l0, some (.long x), l2, l3, l4, l5], st, w, k, n) = WP (MX3_digest g) Q (17, [l0, some (.long x), l2, l3, l4, l5], .long x :: st, w, k, n) := Eq.trans (WP_at (M := (MX3_digest g)) rfl dX3_digest_16 (Or.inr rfl)) rfl
theorem eX3_digest_17 : WP (MX3_digest g) Q (17, [some (.ref p), l1, l2, l3, l4, l5], st, w, k, n) = WP (MX3_digest g) Q (18, [some (.ref p), l1, l2, l3, l4, l5], .ref p :: st, w, k, n) := Eq.trans (WP_at (M := (MX3_digest g)) rfl dX3_digest_17 (Or.inr rfl)) rfl
theorem eX3_digest_17N : WP (MX3_digest g) Q (17, [some .null, l1, l2, l3, l4, l5], st, w, k, n) = WP (MX3_digest g) Q (18, [some .null, l1, l2, l3, l4, l5], .null :: st, w, k, n) := Eq.trans (WP_at (M := (MX3_digest g)) rfl dX3_digest_17 (Or.inr rfl)) rfl
theorem eX3_digest_18 : WP (MX3_digest g) Q (18, [l0, l1, l2, some (.int a), l4, l5], st, w, k, n) = WP (MX3_digest g) Q (19, [l0, l1, l2, some (.int a), l4, l5], .int a :: st, w, k, n) := Eq.trans (WP_at (M := (MX3_digest g)) rfl dX3_digest_18 (Or.inr rfl)) rfl
theorem eX3_digest_19 {z0 : Int32} : WP (MX3_digest g) Q (19, [l0, l1, l2, l3, l4, l5], .int z0 :: .ref p :: st, w, k, n) = (go (rd g w p) 7 (fun _ => True) ∧ wt st ≤ 8 ∧ k + 2 ≤ 90 ∧ n + 9 ≤ 520 ∧ WP (MX3_houseNow g) (kx (fun v w' => WP (MX3_digest g) Q (22, [l0, l1, l2, l3, l4, l5], v.toList ++ st, w', k + 2, n + 9)) (fun E w' => Q (.inr E) w')) (0, [some (.ref p), some (.int z0), none, none, none], [], w, 0, 0)) := csV (M := (MX3_digest g)) (mc := (fun _ _ => 2)) (ms := (fun _ _ => 9)) (As := [.int z0]) (rest := st) (MX3_houseNow g) rfl rfl dX3_digest_19 (by exact fun h => nomatch (show (none : Option Nat) = some 11 from h)) (by exact fun h => nomatch (show (none : Option Nat) = some 15 from h)) rfl rfl (by decide) (Nat.le_of_ble_eq_true rfl) (Nat.le_of_ble_eq_true rfl) rfl
theorem eX3_digest_22 : WP (MX3_digest g) Q (22, [l0, l1, l2, l3, l4, l5], .int a :: st, w, k, n) = WP (MX3_digest g) Q (23, [l0, l1, l2, l3, l4, l5], .long a.toInt64 :: st, w, k, n) := Eq.trans (WP_at (M := (MX3_digest g)) rfl dX3_digest_22 (Or.inr rfl)) rfl
theorem eX3_digest_23 {z0 : Int64} {z1 : Int64} : WP (MX3_digest g) Q (23, [l0, l1, l2, l3, l4, l5], .long z1 :: .long z0 :: st, w, k, n) = (wt st ≤ 8 ∧ k + 0 ≤ 90 ∧ n + 0 ≤ 520 ∧ WP (MX3_add g) (kx (fun v w' => WP (MX3_digest g) Q (26, [l0, l1, l2, l3, l4, l5], v.toList ++ st, w', k + 0, n + 0)) (fun E w' => Q (.inr E) w')) (0, [some (.long z0), none, some (.long z1), none], [], w, 0, 0)) := csS (M := (MX3_digest g)) (mc := (fun _ _ => 0)) (ms := (fun _ _ => 0)) (As := [.long z0, .long z1]) (rest := st) (MX3_add g) rfl rfl dX3_digest_23 (Nat.ne_of_beq_eq_false rfl) (by exact fun h => nomatch (show (none : Option Nat) = some 12 from h)) (by exact fun h => nomatch (show (none : Option Nat) = some 13 from h)) (by exact fun h => nomatch (show (none : Option Nat) = some 14 from h)) rfl rfl (by decide) (Nat.le_of_ble_eq_true rfl) (Nat.le_of_ble_eq_true rfl) rfl
theorem eX3_digest_26 : WP (MX3_digest g) Q (26, [l0, l1, l2, l3, l4, l5], .long x :: st, w, k, n) = WP (MX3_digest g) Q (27, [nl l0, some (.long x), none, l3, l4, l5], st, w, k, n) := by rw [WP_at (M := (MX3_digest g)) rfl dX3_digest_26 (Or.inr rfl)]; exact and_t (Nat.le_of_ble_eq_true rfl)
theorem eX3_digest_27 : WP (MX3_digest g) Q (27, [l0, l1, l2, some (.int a), l4, l5], st, w, k, n) = WP (MX3_digest g) Q (30, [l0, l1, nl l2, some (.int (a + 1)), l4, l5], st, w, k, n) := Eq.trans (iinc_e (M := (MX3_digest g)) (L := [l0, l1, l2, some (.int a), l4, l5]) (d := 1) rfl dX3_digest_27 (by decide) rfl) rfl
theorem eX3_digest_30 : WP (MX3_digest g) Q (30, [l0, l1, l2, l3, l4, l5], st, w, k, n) = WP (MX3_digest g) Q (11, [l0, l1, l2, l3, l4, l5], st, w, k, n) := goto_e rfl dX3_digest_30 (by decide)
theorem eX3_digest_33 : WP (MX3_digest g) Q (33, [l0, l1, l2, l3, l4, l5], st, w, k, n) = WP (MX3_digest g) Q (34, [l0, l1, l2, l3, l4, l5], .int 0 :: st, w, k, n) := iconst_e rfl dX3_digest_33 (by decide)
theorem eX3_digest_34 : WP (MX3_digest g) Q (34, [l0, l1, l2, l3, l4, l5], .int a :: st, w, k, n) = WP (MX3_digest g) Q (35, [l0, l1, nl l2, some (.int a), l4, l5], st, w, k, n) := by rw [WP_at (M := (MX3_digest g)) rfl dX3_digest_34 (Or.inr rfl)]; exact and_t (Nat.le_of_ble_eq_true rfl)
theorem eX3_digest_35 : WP (MX3_digest g) Q (35, [l0, l1, l2, some (.int a), l4, l5], st, w, k, n) = WP (MX3_digest g) Q (36, [l0, l1, l2, some (.int a), l4, l5], .int a :: st, w, k, n) := Eq.trans (WP_at (M := (MX3_digest g)) rfl dX3_digest_35 (Or.inr rfl)) rfl
theorem eX3_digest_36 : WP (MX3_digest g) Q (36, [l0, l1, l2, l3, l4, l5], st, w, k, n) = WP (MX3_digest g) Q (38, [l0, l1, l2, l3, l4, l5], .int 8 :: st, w, k, n) := bipush_e rfl dX3_digest_36 (by decide)
theorem eX3_digest_38 : WP (MX3_digest g) Q (38, [l0, l1, l2, l3, l4, l5], .int b :: .int a :: st, w, k, n) = if b ≤ a then WP (MX3_digest g) Q (95, [l0, l1, l2, l3, l4, l5], st, w, k, n) else WP (MX3_digest g) Q (41, [l0, l1, l2, l3, l4, l5], st, w, k, n) := icm_e (b ≤ a) rfl dX3_digest_38 rfl (by decide)
theorem eX3_digest_41 : WP (MX3_digest g) Q (41, [l0, some (.long x), l2, l3, l4, l5], st, w, k, n) = WP (MX3_digest g) Q (42, [l0, some (.long x), l2, l3, l4, l5], .long x :: st, w, k, n) := Eq.trans (WP_at (M := (MX3_digest g)) rfl dX3_digest_41 (Or.inr rfl)) rfl
theorem eX3_digest_42 : WP (MX3_digest g) Q (42, [some (.ref p), l1, l2, l3, l4, l5], st, w, k, n) = WP (MX3_digest g) Q (43, [some (.ref p), l1, l2, l3, l4, l5], .ref p :: st, w, k, n) := Eq.trans (WP_at (M := (MX3_digest g)) rfl dX3_digest_42 (Or.inr rfl)) rfl
theorem eX3_digest_42N : WP (MX3_digest g) Q (42, [some .null, l1, l2, l3, l4, l5], st, w, k, n) = WP (MX3_digest g) Q (43, [some .null, l1, l2, l3, l4, l5], .null :: st, w, k, n) := Eq.trans (WP_at (M := (MX3_digest g)) rfl dX3_digest_42 (Or.inr rfl)) rfl
theorem eX3_digest_43 : WP (MX3_digest g) Q (43, [l0, l1, l2, l3, l4, l5], .ref p :: st, w, k, n) = go (rd g w p) 7 fun fs => ∃ v, fs[1]? = some v ∧ WP (MX3_digest g) Q (46, [l0, l1, l2, l3, l4, l5], v :: st, w, k, n) := get_e rfl dX3_digest_43 rfl
theorem eX3_digest_46 : WP (MX3_digest g) Q (46, [l0, l1, l2, some (.int a), l4, l5], st, w, k, n) = WP (MX3_digest g) Q (47, [l0, l1, l2, some (.int a), l4, l5], .int a :: st, w, k, n) := Eq.trans (WP_at (M := (MX3_digest g)) rfl dX3_digest_46 (Or.inr rfl)) rfl
theorem eX3_digest_47 : WP (MX3_digest g) Q (47, [l0, l1, l2, l3, l4, l5], .int a :: .ref p :: st, w, k, n) = gl (rd g w p) 0 fun N f => vp_in a N ∧ WP (MX3_digest g) Q (48, [l0, l1, l2, l3, l4, l5], .long (f a.toNatClampNeg) :: st, w, k, n) := Eq.trans (WP_at (M := (MX3_digest g)) rfl dX3_digest_47 (Or.inr rfl)) rfl
theorem eX3_digest_48 {z0 : Int64} : WP (MX3_digest g) Q (48, [l0, l1, l2, l3, l4, l5], .long z0 :: st, w, k, n) = (wt st ≤ 8 ∧ k + 0 ≤ 90 ∧ n + 0 ≤ 520 ∧ WP (MX3_high g) (kx (fun v w' => WP (MX3_digest g) Q (51, [l0, l1, l2, l3, l4, l5], v.toList ++ st, w', k + 0, n + 0)) (fun E w' => Q (.inr E) w')) (0, [some (.long z0), none], [], w, 0, 0)) := csS (M := (MX3_digest g)) (mc := (fun _ _ => 0)) (ms := (fun _ _ => 0)) (As := [.long z0]) (rest := st) (MX3_high g) rfl rfl dX3_digest_48 (Nat.ne_of_beq_eq_false rfl) (by exact fun h => nomatch (show (none : Option Nat) = some 12 from h)) (by exact fun h => nomatch (show (none : Option Nat) = some 13 from h)) (by exact fun h => nomatch (show (none : Option Nat) = some 14 from h)) rfl rfl (by decide) (Nat.le_of_ble_eq_true rfl) (Nat.le_of_ble_eq_true rfl) rfl
theorem eX3_digest_51 : WP (MX3_digest g) Q (51, [l0, l1, l2, l3, l4, l5], .int a :: st, w, k, n) = WP (MX3_digest g) Q (52, [l0, l1, l2, l3, l4, l5], .long a.toInt64 :: st, w, k, n) := Eq.trans (WP_at (M := (MX3_digest g)) rfl dX3_digest_51 (Or.inr rfl)) rfl
theorem eX3_digest_52 {z0 : Int64} {z1 : Int64} : WP (MX3_digest g) Q (52, [l0, l1, l2, l3, l4, l5], .long z1 :: .long z0 :: st, w, k, n) = (wt st ≤ 8 ∧ k + 0 ≤ 90 ∧ n + 0 ≤ 520 ∧ WP (MX3_add g) (kx (fun v w' => WP (MX3_digest g) Q (55, [l0, l1, l2, l3, l4, l5], v.toList ++ st, w', k + 0, n + 0)) (fun E w' => Q (.inr E) w')) (0, [some (.long z0), none, some (.long z1), none], [], w, 0, 0)) := csS (M := (MX3_digest g)) (mc := (fun _ _ => 0)) (ms := (fun _ _ => 0)) (As := [.long z0, .long z1]) (rest := st) (MX3_add g) rfl rfl dX3_digest_52 (Nat.ne_of_beq_eq_false rfl) (by exact fun h => nomatch (show (none : Option Nat) = some 12 from h)) (by exact fun h => nomatch (show (none : Option Nat) = some 13 from h)) (by exact fun h => nomatch (show (none : Option Nat) = some 14 from h)) rfl rfl (by decide) (Nat.le_of_ble_eq_true rfl) (Nat.le_of_ble_eq_true rfl) rfl
theorem eX3_digest_55 : WP (MX3_digest g) Q (55, [some (.ref p), l1, l2, l3, l4, l5], st, w, k, n) = WP (MX3_digest g) Q (56, [some (.ref p), l1, l2, l3, l4, l5], .ref p :: st, w, k, n) := Eq.trans (WP_at (M := (MX3_digest g)) rfl dX3_digest_55 (Or.inr rfl)) rfl
theorem eX3_digest_55N : WP (MX3_digest g) Q (55, [some .null, l1, l2, l3, l4, l5], st, w, k, n) = WP (MX3_digest g) Q (56, [some .null, l1, l2, l3, l4, l5], .null :: st, w, k, n) := Eq.trans (WP_at (M := (MX3_digest g)) rfl dX3_digest_55 (Or.inr rfl)) rfl
theorem eX3_digest_56 : WP (MX3_digest g) Q (56, [l0, l1, l2, l3, l4, l5], .ref p :: st, w, k, n) = go (rd g w p) 7 fun fs => ∃ v, fs[1]? = some v ∧ WP (MX3_digest g) Q (59, [l0, l1, l2, l3, l4, l5], v :: st, w, k, n) := get_e rfl dX3_digest_56 rfl
theorem eX3_digest_59 : WP (MX3_digest g) Q (59, [l0, l1, l2, some (.int a), l4, l5], st, w, k, n) = WP (MX3_digest g) Q (60, [l0, l1, l2, some (.int a), l4, l5], .int a :: st, w, k, n) := Eq.trans (WP_at (M := (MX3_digest g)) rfl dX3_digest_59 (Or.inr rfl)) rfl
theorem eX3_digest_60 : WP (MX3_digest g) Q (60, [l0, l1, l2, l3, l4, l5], .int a :: .ref p :: st, w, k, n) = gl (rd g w p) 0 fun N f => vp_in a N ∧ WP (MX3_digest g) Q (61, [l0, l1, l2, l3, l4, l5], .long (f a.toNatClampNeg) :: st, w, k, n) := Eq.trans (WP_at (M := (MX3_digest g)) rfl dX3_digest_60 (Or.inr rfl)) rfl
theorem eX3_digest_61 {z0 : Int64} : WP (MX3_digest g) Q (61, [l0, l1, l2, l3, l4, l5], .long z0 :: st, w, k, n) = (wt st ≤ 8 ∧ k + 0 ≤ 90 ∧ n + 0 ≤ 520 ∧ WP (MX3_low g) (kx (fun v w' => WP (MX3_digest g) Q (64, [l0, l1, l2, l3, l4, l5], v.toList ++ st, w', k + 0, n + 0)) (fun E w' => Q (.inr E) w')) (0, [some (.long z0), none, none, none], [], w, 0, 0)) := csS (M := (MX3_digest g)) (mc := (fun _ _ => 0)) (ms := (fun _ _ => 0)) (As := [.long z0]) (rest := st) (MX3_low g) rfl rfl dX3_digest_61 (Nat.ne_of_beq_eq_false rfl) (by exact fun h => nomatch (show (none : Option Nat) = some 12 from h)) (by exact fun h => nomatch (show (none : Option Nat) = some 13 from h)) (by exact fun h => nomatch (show (none : Option Nat) = some 14 from h)) rfl rfl (by decide) (Nat.le_of_ble_eq_true rfl) (Nat.le_of_ble_eq_true rfl) rfl
theorem eX3_digest_64 : WP (MX3_digest g) Q (64, [l0, l1, l2, l3, l4, l5], .int a :: st, w, k, n) = WP (MX3_digest g) Q (65, [l0, l1, l2, l3, l4, l5], .long a.toInt64 :: st, w, k, n) := Eq.trans (WP_at (M := (MX3_digest g)) rfl dX3_digest_64 (Or.inr rfl)) rfl
theorem eX3_digest_65 {z0 : Int64} {z1 : Int64} : WP (MX3_digest g) Q (65, [l0, l1, l2, l3, l4, l5], .long z1 :: .long z0 :: st, w, k, n) = (wt st ≤ 8 ∧ k + 0 ≤ 90 ∧ n + 0 ≤ 520 ∧ WP (MX3_add g) (kx (fun v w' => WP (MX3_digest g) Q (68, [l0, l1, l2, l3, l4, l5], v.toList ++ st, w', k + 0, n + 0)) (fun E w' => Q (.inr E) w')) (0, [some (.long z0), none, some (.long z1), none], [], w, 0, 0)) := csS (M := (MX3_digest g)) (mc := (fun _ _ => 0)) (ms := (fun _ _ => 0)) (As := [.long z0, .long z1]) (rest := st) (MX3_add g) rfl rfl dX3_digest_65 (Nat.ne_of_beq_eq_false rfl) (by exact fun h => nomatch (show (none : Option Nat) = some 12 from h)) (by exact fun h => nomatch (show (none : Option Nat) = some 13 from h)) (by exact fun h => nomatch (show (none : Option Nat) = some 14 from h)) rfl rfl (by decide) (Nat.le_of_ble_eq_true rfl) (Nat.le_of_ble_eq_true rfl) rfl
theorem eX3_digest_68 : WP (MX3_digest g) Q (68, [some (.ref p), l1, l2, l3, l4, l5], st, w, k, n) = WP (MX3_digest g) Q (69, [some (.ref p), l1, l2, l3, l4, l5], .ref p :: st, w, k, n) := Eq.trans (WP_at (M := (MX3_digest g)) rfl dX3_digest_68 (Or.inr rfl)) rfl
theorem eX3_digest_68N : WP (MX3_digest g) Q (68, [some .null, l1, l2, l3, l4, l5], st, w, k, n) = WP (MX3_digest g) Q (69, [some .null, l1, l2, l3, l4, l5], .null :: st, w, k, n) := Eq.trans (WP_at (M := (MX3_digest g)) rfl dX3_digest_68 (Or.inr rfl)) rfl
theorem eX3_digest_69 : WP (MX3_digest g) Q (69, [l0, l1, l2, some (.int a), l4, l5], st, w, k, n) = WP (MX3_digest g) Q (70, [l0, l1, l2, some (.int a), l4, l5], .int a :: st, w, k, n) := Eq.trans (WP_at (M := (MX3_digest g)) rfl dX3_digest_69 (Or.inr rfl)) rfl
theorem eX3_digest_70 : WP (MX3_digest g) Q (70, [l0, l1, l2, l3, l4, l5], st, w, k, n) = WP (MX3_digest g) Q (71, [l0, l1, l2, l3, l4, l5], .int 0 :: st, w, k, n) := iconst_e rfl dX3_digest_70 (by decide)
theorem eX3_digest_71 {z0 : Int32} {z1 : Int32} : WP (MX3_digest g) Q (71, [l0, l1, l2, l3, l4, l5], .int z1 :: .int z0 :: .ref p :: st, w, k, n) = (go (rd g w p) 7 (fun _ => True) ∧ wt st ≤ 8 ∧ k + 0 ≤ 90 ∧ n + 0 ≤ 520 ∧ WP (MX3_whoNow g) (kx (fun v w' => WP (MX3_digest g) Q (74, [l0, l1, l2, l3, l4, l5], v.toList ++ st, w', k + 0, n + 0)) (fun E w' => Q (.inr E) w')) (0, [some (.ref p), some (.int z0), some (.int z1), none, none], [], w, 0, 0)) := csV (M := (MX3_digest g)) (mc := (fun _ _ => 0)) (ms := (fun _ _ => 0)) (As := [.int z0, .int z1]) (rest := st) (MX3_whoNow g) rfl rfl dX3_digest_71 (by exact fun h => nomatch (show (none : Option Nat) = some 11 from h)) (by exact fun h => nomatch (show (none : Option Nat) = some 15 from h)) rfl rfl (by decide) (Nat.le_of_ble_eq_true rfl) (Nat.le_of_ble_eq_true rfl) rfl
theorem eX3_digest_74 : WP (MX3_digest g) Q (74, [l0, l1, l2, l3, l4, l5], .int a :: st, w, k, n) = WP (MX3_digest g) Q (75, [l0, l1, l2, l3, l4, l5], .long a.toInt64 :: st, w, k, n) := Eq.trans (WP_at (M := (MX3_digest g)) rfl dX3_digest_74 (Or.inr rfl)) rfl
theorem eX3_digest_75 {z0 : Int64} {z1 : Int64} : WP (MX3_digest g) Q (75, [l0, l1, l2, l3, l4, l5], .long z1 :: .long z0 :: st, w, k, n) = (wt st ≤ 8 ∧ k + 0 ≤ 90 ∧ n + 0 ≤ 520 ∧ WP (MX3_add g) (kx (fun v w' => WP (MX3_digest g) Q (78, [l0, l1, l2, l3, l4, l5], v.toList ++ st, w', k + 0, n + 0)) (fun E w' => Q (.inr E) w')) (0, [some (.long z0), none, some (.long z1), none], [], w, 0, 0)) := csS (M := (MX3_digest g)) (mc := (fun _ _ => 0)) (ms := (fun _ _ => 0)) (As := [.long z0, .long z1]) (rest := st) (MX3_add g) rfl rfl dX3_digest_75 (Nat.ne_of_beq_eq_false rfl) (by exact fun h => nomatch (show (none : Option Nat) = some 12 from h)) (by exact fun h => nomatch (show (none : Option Nat) = some 13 from h)) (by exact fun h => nomatch (show (none : Option Nat) = some 14 from h)) rfl rfl (by decide) (Nat.le_of_ble_eq_true rfl) (Nat.le_of_ble_eq_true rfl) rfl
theorem eX3_digest_78 : WP (MX3_digest g) Q (78, [some (.ref p), l1, l2, l3, l4, l5], st, w, k, n) = WP (MX3_digest g) Q (79, [some (.ref p), l1, l2, l3, l4, l5], .ref p :: st, w, k, n) := Eq.trans (WP_at (M := (MX3_digest g)) rfl dX3_digest_78 (Or.inr rfl)) rfl
theorem eX3_digest_78N : WP (MX3_digest g) Q (78, [some .null, l1, l2, l3, l4, l5], st, w, k, n) = WP (MX3_digest g) Q (79, [some .null, l1, l2, l3, l4, l5], .null :: st, w, k, n) := Eq.trans (WP_at (M := (MX3_digest g)) rfl dX3_digest_78 (Or.inr rfl)) rfl
theorem eX3_digest_79 : WP (MX3_digest g) Q (79, [l0, l1, l2, some (.int a), l4, l5], st, w, k, n) = WP (MX3_digest g) Q (80, [l0, l1, l2, some (.int a), l4, l5], .int a :: st, w, k, n) := Eq.trans (WP_at (M := (MX3_digest g)) rfl dX3_digest_79 (Or.inr rfl)) rfl
theorem eX3_digest_80 : WP (MX3_digest g) Q (80, [l0, l1, l2, l3, l4, l5], st, w, k, n) = WP (MX3_digest g) Q (81, [l0, l1, l2, l3, l4, l5], .int 1 :: st, w, k, n) := iconst_e rfl dX3_digest_80 (by decide)
theorem eX3_digest_81 {z0 : Int32} {z1 : Int32} : WP (MX3_digest g) Q (81, [l0, l1, l2, l3, l4, l5], .int z1 :: .int z0 :: .ref p :: st, w, k, n) = (go (rd g w p) 7 (fun _ => True) ∧ wt st ≤ 8 ∧ k + 0 ≤ 90 ∧ n + 0 ≤ 520 ∧ WP (MX3_whoNow g) (kx (fun v w' => WP (MX3_digest g) Q (84, [l0, l1, l2, l3, l4, l5], v.toList ++ st, w', k + 0, n + 0)) (fun E w' => Q (.inr E) w')) (0, [some (.ref p), some (.int z0), some (.int z1), none, none], [], w, 0, 0)) := csV (M := (MX3_digest g)) (mc := (fun _ _ => 0)) (ms := (fun _ _ => 0)) (As := [.int z0, .int z1]) (rest := st) (MX3_whoNow g) rfl rfl dX3_digest_81 (by exact fun h => nomatch (show (none : Option Nat) = some 11 from h)) (by exact fun h => nomatch (show (none : Option Nat) = some 15 from h)) rfl rfl (by decide) (Nat.le_of_ble_eq_true rfl) (Nat.le_of_ble_eq_true rfl) rfl
theorem eX3_digest_84 : WP (MX3_digest g) Q (84, [l0, l1, l2, l3, l4, l5], .int a :: st, w, k, n) = WP (MX3_digest g) Q (85, [l0, l1, l2, l3, l4, l5], .long a.toInt64 :: st, w, k, n) := Eq.trans (WP_at (M := (MX3_digest g)) rfl dX3_digest_84 (Or.inr rfl)) rfl
theorem eX3_digest_85 {z0 : Int64} {z1 : Int64} : WP (MX3_digest g) Q (85, [l0, l1, l2, l3, l4, l5], .long z1 :: .long z0 :: st, w, k, n) = (wt st ≤ 8 ∧ k + 0 ≤ 90 ∧ n + 0 ≤ 520 ∧ WP (MX3_add g) (kx (fun v w' => WP (MX3_digest g) Q (88, [l0, l1, l2, l3, l4, l5], v.toList ++ st, w', k + 0, n + 0)) (fun E w' => Q (.inr E) w')) (0, [some (.long z0), none, some (.long z1), none], [], w, 0, 0)) := csS (M := (MX3_digest g)) (mc := (fun _ _ => 0)) (ms := (fun _ _ => 0)) (As := [.long z0, .long z1]) (rest := st) (MX3_add g) rfl rfl dX3_digest_85 (Nat.ne_of_beq_eq_false rfl) (by exact fun h => nomatch (show (none : Option Nat) = some 12 from h)) (by exact fun h => nomatch (show (none : Option Nat) = some 13 from h)) (by exact fun h => nomatch (show (none : Option Nat) = some 14 from h)) rfl rfl (by decide) (Nat.le_of_ble_eq_true rfl) (Nat.le_of_ble_eq_true rfl) rfl
theorem eX3_digest_88 : WP (MX3_digest g) Q (88, [l0, l1, l2, l3, l4, l5], .long x :: st, w, k, n) = WP (MX3_digest g) Q (89, [nl l0, some (.long x), none, l3, l4, l5], st, w, k, n) := by rw [WP_at (M := (MX3_digest g)) rfl dX3_digest_88 (Or.inr rfl)]; exact and_t (Nat.le_of_ble_eq_true rfl)
theorem eX3_digest_89 : WP (MX3_digest g) Q (89, [l0, l1, l2, some (.int a), l4, l5], st, w, k, n) = WP (MX3_digest g) Q (92, [l0, l1, nl l2, some (.int (a + 1)), l4, l5], st, w, k, n) := Eq.trans (iinc_e (M := (MX3_digest g)) (L := [l0, l1, l2, some (.int a), l4, l5]) (d := 1) rfl dX3_digest_89 (by decide) rfl) rfl
theorem eX3_digest_92 : WP (MX3_digest g) Q (92, [l0, l1, l2, l3, l4, l5], st, w, k, n) = WP (MX3_digest g) Q (35, [l0, l1, l2, l3, l4, l5], st, w, k, n) := goto_e rfl dX3_digest_92 (by decide)
theorem eX3_digest_95 : WP (MX3_digest g) Q (95, [l0, l1, l2, l3, l4, l5], st, w, k, n) = WP (MX3_digest g) Q (96, [l0, l1, l2, l3, l4, l5], .int 0 :: st, w, k, n) := iconst_e rfl dX3_digest_95 (by decide)
theorem eX3_digest_96 : WP (MX3_digest g) Q (96, [l0, l1, l2, l3, l4, l5], .int a :: st, w, k, n) = WP (MX3_digest g) Q (97, [l0, l1, nl l2, some (.int a), l4, l5], st, w, k, n) := by rw [WP_at (M := (MX3_digest g)) rfl dX3_digest_96 (Or.inr rfl)]; exact and_t (Nat.le_of_ble_eq_true rfl)
theorem eX3_digest_97 : WP (MX3_digest g) Q (97, [l0, l1, l2, some (.int a), l4, l5], st, w, k, n) = WP (MX3_digest g) Q (98, [l0, l1, l2, some (.int a), l4, l5], .int a :: st, w, k, n) := Eq.trans (WP_at (M := (MX3_digest g)) rfl dX3_digest_97 (Or.inr rfl)) rfl
theorem eX3_digest_98 : WP (MX3_digest g) Q (98, [l0, l1, l2, l3, l4, l5], st, w, k, n) = WP (MX3_digest g) Q (100, [l0, l1, l2, l3, l4, l5], .int 6 :: st, w, k, n) := bipush_e rfl dX3_digest_98 (by decide)
theorem eX3_digest_100 : WP (MX3_digest g) Q (100, [l0, l1, l2, l3, l4, l5], .int b :: .int a :: st, w, k, n) = if b ≤ a then WP (MX3_digest g) Q (314, [l0, l1, l2, l3, l4, l5], st, w, k, n) else WP (MX3_digest g) Q (103, [l0, l1, l2, l3, l4, l5], st, w, k, n) := icm_e (b ≤ a) rfl dX3_digest_100 rfl (by decide)
theorem eX3_digest_103 : WP (MX3_digest g) Q (103, [l0, some (.long x), l2, l3, l4, l5], st, w, k, n) = WP (MX3_digest g) Q (104, [l0, some (.long x), l2, l3, l4, l5], .long x :: st, w, k, n) := Eq.trans (WP_at (M := (MX3_digest g)) rfl dX3_digest_103 (Or.inr rfl)) rfl
theorem eX3_digest_104 : WP (MX3_digest g) Q (104, [some (.ref p), l1, l2, l3, l4, l5], st, w, k, n) = WP (MX3_digest g) Q (105, [some (.ref p), l1, l2, l3, l4, l5], .ref p :: st, w, k, n) := Eq.trans (WP_at (M := (MX3_digest g)) rfl dX3_digest_104 (Or.inr rfl)) rfl
theorem eX3_digest_104N : WP (MX3_digest g) Q (104, [some .null, l1, l2, l3, l4, l5], st, w, k, n) = WP (MX3_digest g) Q (105, [some .null, l1, l2, l3, l4, l5], .null :: st, w, k, n) := Eq.trans (WP_at (M := (MX3_digest g)) rfl dX3_digest_104 (Or.inr rfl)) rfl
theorem eX3_digest_105 : WP (MX3_digest g) Q (105, [l0, l1, l2, some (.int a), l4, l5], st, w, k, n) = WP (MX3_digest g) Q (106, [l0, l1, l2, some (.int a), l4, l5], .int a :: st, w, k, n) := Eq.trans (WP_at (M := (MX3_digest g)) rfl dX3_digest_105 (Or.inr rfl)) rfl
theorem eX3_digest_106 {z0 : Int32} : WP (MX3_digest g) Q (106, [l0, l1, l2, l3, l4, l5], .int z0 :: .ref p :: st, w, k, n) = (go (rd g w p) 7 (fun _ => True) ∧ wt st ≤ 8 ∧ k + 0 ≤ 90 ∧ n + 0 ≤ 520 ∧ WP (MX3_isBare g) (kx (fun v w' => WP (MX3_digest g) Q (109, [l0, l1, l2, l3, l4, l5], v.toList ++ st, w', k + 0, n + 0)) (fun E w' => Q (.inr E) w')) (0, [some (.ref p), some (.int z0)], [], w, 0, 0)) := csV (M := (MX3_digest g)) (mc := (fun _ _ => 0)) (ms := (fun _ _ => 0)) (As := [.int z0]) (rest := st) (MX3_isBare g) rfl rfl dX3_digest_106 (by exact fun h => nomatch (show (none : Option Nat) = some 11 from h)) (by exact fun h => nomatch (show (none : Option Nat) = some 15 from h)) rfl rfl (by decide) (Nat.le_of_ble_eq_true rfl) (Nat.le_of_ble_eq_true rfl) rfl
theorem eX3_digest_109 : WP (MX3_digest g) Q (109, [l0, l1, l2, l3, l4, l5], .int a :: st, w, k, n) = if a = 0 then WP (MX3_digest g) Q (112, [l0, l1, l2, l3, l4, l5], st, w, k, n) else WP (MX3_digest g) Q (116, [l0, l1, l2, l3, l4, l5], st, w, k, n) := ifcn_e (a = 0) rfl dX3_digest_109 rfl (by decide)
theorem eX3_digest_112 : WP (MX3_digest g) Q (112, [l0, l1, l2, l3, l4, l5], st, w, k, n) = WP (MX3_digest g) Q (113, [l0, l1, l2, l3, l4, l5], .int 1 :: st, w, k, n) := iconst_e rfl dX3_digest_112 (by decide)
theorem eX3_digest_113 : WP (MX3_digest g) Q (113, [l0, l1, l2, l3, l4, l5], st, w, k, n) = WP (MX3_digest g) Q (117, [l0, l1, l2, l3, l4, l5], st, w, k, n) := goto_e rfl dX3_digest_113 (by decide)
theorem eX3_digest_116 : WP (MX3_digest g) Q (116, [l0, l1, l2, l3, l4, l5], st, w, k, n) = WP (MX3_digest g) Q (117, [l0, l1, l2, l3, l4, l5], .int 0 :: st, w, k, n) := iconst_e rfl dX3_digest_116 (by decide)
theorem eX3_digest_117 {z0 : Int32} : WP (MX3_digest g) Q (117, [l0, l1, l2, l3, l4, l5], .int z0 :: st, w, k, n) = (wt st ≤ 8 ∧ k + 0 ≤ 90 ∧ n + 0 ≤ 520 ∧ WP (MX3_one g) (kx (fun v w' => WP (MX3_digest g) Q (120, [l0, l1, l2, l3, l4, l5], v.toList ++ st, w', k + 0, n + 0)) (fun E w' => Q (.inr E) w')) (0, [some (.int z0)], [], w, 0, 0)) := csS (M := (MX3_digest g)) (mc := (fun _ _ => 0)) (ms := (fun _ _ => 0)) (As := [.int z0]) (rest := st) (MX3_one g) rfl rfl dX3_digest_117 (Nat.ne_of_beq_eq_false rfl) (by exact fun h => nomatch (show (none : Option Nat) = some 12 from h)) (by exact fun h => nomatch (show (none : Option Nat) = some 13 from h)) (by exact fun h => nomatch (show (none : Option Nat) = some 14 from h)) rfl rfl (by decide) (Nat.le_of_ble_eq_true rfl) (Nat.le_of_ble_eq_true rfl) rfl
theorem eX3_digest_120 : WP (MX3_digest g) Q (120, [l0, l1, l2, l3, l4, l5], .int a :: st, w, k, n) = WP (MX3_digest g) Q (121, [l0, l1, l2, l3, l4, l5], .long a.toInt64 :: st, w, k, n) := Eq.trans (WP_at (M := (MX3_digest g)) rfl dX3_digest_120 (Or.inr rfl)) rfl
theorem eX3_digest_121 {z0 : Int64} {z1 : Int64} : WP (MX3_digest g) Q (121, [l0, l1, l2, l3, l4, l5], .long z1 :: .long z0 :: st, w, k, n) = (wt st ≤ 8 ∧ k + 0 ≤ 90 ∧ n + 0 ≤ 520 ∧ WP (MX3_add g) (kx (fun v w' => WP (MX3_digest g) Q (124, [l0, l1, l2, l3, l4, l5], v.toList ++ st, w', k + 0, n + 0)) (fun E w' => Q (.inr E) w')) (0, [some (.long z0), none, some (.long z1), none], [], w, 0, 0)) := csS (M := (MX3_digest g)) (mc := (fun _ _ => 0)) (ms := (fun _ _ => 0)) (As := [.long z0, .long z1]) (rest := st) (MX3_add g) rfl rfl dX3_digest_121 (Nat.ne_of_beq_eq_false rfl) (by exact fun h => nomatch (show (none : Option Nat) = some 12 from h)) (by exact fun h => nomatch (show (none : Option Nat) = some 13 from h)) (by exact fun h => nomatch (show (none : Option Nat) = some 14 from h)) rfl rfl (by decide) (Nat.le_of_ble_eq_true rfl) (Nat.le_of_ble_eq_true rfl) rfl
theorem eX3_digest_124 : WP (MX3_digest g) Q (124, [l0, l1, l2, l3, l4, l5], .long x :: st, w, k, n) = WP (MX3_digest g) Q (125, [nl l0, some (.long x), none, l3, l4, l5], st, w, k, n) := by rw [WP_at (M := (MX3_digest g)) rfl dX3_digest_124 (Or.inr rfl)]; exact and_t (Nat.le_of_ble_eq_true rfl)
theorem eX3_digest_125 : WP (MX3_digest g) Q (125, [some (.ref p), l1, l2, l3, l4, l5], st, w, k, n) = WP (MX3_digest g) Q (126, [some (.ref p), l1, l2, l3, l4, l5], .ref p :: st, w, k, n) := Eq.trans (WP_at (M := (MX3_digest g)) rfl dX3_digest_125 (Or.inr rfl)) rfl
theorem eX3_digest_125N : WP (MX3_digest g) Q (125, [some .null, l1, l2, l3, l4, l5], st, w, k, n) = WP (MX3_digest g) Q (126, [some .null, l1, l2, l3, l4, l5], .null :: st, w, k, n) := Eq.trans (WP_at (M := (MX3_digest g)) rfl dX3_digest_125 (Or.inr rfl)) rfl
theorem eX3_digest_126 : WP (MX3_digest g) Q (126, [l0, l1, l2, some (.int a), l4, l5], st, w, k, n) = WP (MX3_digest g) Q (127, [l0, l1, l2, some (.int a), l4, l5], .int a :: st, w, k, n) := Eq.trans (WP_at (M := (MX3_digest g)) rfl dX3_digest_126 (Or.inr rfl)) rfl
theorem eX3_digest_127 {z0 : Int32} : WP (MX3_digest g) Q (127, [l0, l1, l2, l3, l4, l5], .int z0 :: .ref p :: st, w, k, n) = (go (rd g w p) 7 (fun _ => True) ∧ wt st ≤ 8 ∧ k + 0 ≤ 90 ∧ n + 0 ≤ 520 ∧ WP (MX3_isBare g) (kx (fun v w' => WP (MX3_digest g) Q (130, [l0, l1, l2, l3, l4, l5], v.toList ++ st, w', k + 0, n + 0)) (fun E w' => Q (.inr E) w')) (0, [some (.ref p), some (.int z0)], [], w, 0, 0)) := csV (M := (MX3_digest g)) (mc := (fun _ _ => 0)) (ms := (fun _ _ => 0)) (As := [.int z0]) (rest := st) (MX3_isBare g) rfl rfl dX3_digest_127 (by exact fun h => nomatch (show (none : Option Nat) = some 11 from h)) (by exact fun h => nomatch (show (none : Option Nat) = some 15 from h)) rfl rfl (by decide) (Nat.le_of_ble_eq_true rfl) (Nat.le_of_ble_eq_true rfl) rfl
theorem eX3_digest_130 : WP (MX3_digest g) Q (130, [l0, l1, l2, l3, l4, l5], .int a :: st, w, k, n) = if a = 0 then WP (MX3_digest g) Q (136, [l0, l1, l2, l3, l4, l5], st, w, k, n) else WP (MX3_digest g) Q (133, [l0, l1, l2, l3, l4, l5], st, w, k, n) := ifc_e (a = 0) rfl dX3_digest_130 rfl (by decide)
theorem eX3_digest_133 : WP (MX3_digest g) Q (133, [l0, l1, l2, l3, l4, l5], st, w, k, n) = WP (MX3_digest g) Q (308, [l0, l1, l2, l3, l4, l5], st, w, k, n) := goto_e rfl dX3_digest_133 (by decide)
theorem eX3_digest_136 : WP (MX3_digest g) Q (136, [some (.ref p), l1, l2, l3, l4, l5], st, w, k, n) = WP (MX3_digest g) Q (137, [some (.ref p), l1, l2, l3, l4, l5], .ref p :: st, w, k, n) := Eq.trans (WP_at (M := (MX3_digest g)) rfl dX3_digest_136 (Or.inr rfl)) rfl
theorem eX3_digest_136N : WP (MX3_digest g) Q (136, [some .null, l1, l2, l3, l4, l5], st, w, k, n) = WP (MX3_digest g) Q (137, [some .null, l1, l2, l3, l4, l5], .null :: st, w, k, n) := Eq.trans (WP_at (M := (MX3_digest g)) rfl dX3_digest_136 (Or.inr rfl)) rfl
theorem eX3_digest_137 : WP (MX3_digest g) Q (137, [l0, l1, l2, l3, l4, l5], .ref p :: st, w, k, n) = go (rd g w p) 7 fun fs => ∃ v, fs[2]? = some v ∧ WP (MX3_digest g) Q (140, [l0, l1, l2, l3, l4, l5], v :: st, w, k, n) := get_e rfl dX3_digest_137 rfl
theorem eX3_digest_140 : WP (MX3_digest g) Q (140, [l0, l1, l2, some (.int a), l4, l5], st, w, k, n) = WP (MX3_digest g) Q (141, [l0, l1, l2, some (.int a), l4, l5], .int a :: st, w, k, n) := Eq.trans (WP_at (M := (MX3_digest g)) rfl dX3_digest_140 (Or.inr rfl)) rfl
theorem eX3_digest_141 {z0 : Int32} : WP (MX3_digest g) Q (141, [l0, l1, l2, l3, l4, l5], .int z0 :: .ref p :: st, w, k, n) = (go (rd g w p) 3 (fun _ => True) ∧ wt st ≤ 8 ∧ k + 0 ≤ 90 ∧ n + 0 ≤ 520 ∧ WP (MJx4a65c_get_915e3 g) (kx (fun v w' => WP (MX3_digest g) Q (144, [l0, l1, l2, l3, l4, l5], v.toList ++ st, w', k + 0, n + 0)) (fun E w' => Q (.inr E) w')) (0, [some (.ref p), some (.int z0)], [], w, 0, 0)) := csV (M := (MX3_digest g)) (mc := (fun _ _ => 0)) (ms := (fun _ _ => 0)) (As := [.int z0]) (rest := st) (MJx4a65c_get_915e3 g) rfl rfl dX3_digest_141 (by exact fun h => nomatch (show (none : Option Nat) = some 11 from h)) (by exact fun h => nomatch (show (none : Option Nat) = some 15 from h)) rfl rfl (by decide) (Nat.le_of_ble_eq_true rfl) (Nat.le_of_ble_eq_true rfl) rfl
theorem eX3_digest_144N : WP (MX3_digest g) Q (144, [l0, l1, l2, l3, l4, l5], .null :: st, w, k, n) = WP (MX3_digest g) Q (147, [l0, l1, l2, l3, l4, l5], .null :: st, w, k, n) := castN_e rfl dX3_digest_144
theorem eX3_digest_144R : WP (MX3_digest g) Q (144, [l0, l1, l2, l3, l4, l5], .ref p :: st, w, k, n) = ((∃ x, w p = some (.inl (0, x))) ∧ WP (MX3_digest g) Q (147, [l0, l1, l2, l3, l4, l5], .ref p :: st, w, k, n)) := castR_e rfl dX3_digest_144 rfl
theorem eX3_digest_147 : WP (MX3_digest g) Q (147, [l0, l1, l2, l3, l4, l5], .ref p :: st, w, k, n) = WP (MX3_digest g) Q (149, [l0, l1, l2, nl l3, some (.ref p), l5], st, w, k, n) := by rw [WP_at (M := (MX3_digest g)) rfl dX3_digest_147 (Or.inr rfl)]; exact and_t (Nat.le_of_ble_eq_true rfl)
theorem eX3_digest_147N : WP (MX3_digest g) Q (147, [l0, l1, l2, l3, l4, l5], .null :: st, w, k, n) = WP (MX3_digest g) Q (149, [l0, l1, l2, nl l3, some (.null), l5], st, w, k, n) := by rw [WP_at (M := (MX3_digest g)) rfl dX3_digest_147 (Or.inr rfl)]; exact and_t (Nat.le_of_ble_eq_true rfl)
theorem eX3_digest_149 : WP (MX3_digest g) Q (149, [l0, l1, l2, l3, l4, l5], st, w, k, n) = WP (MX3_digest g) Q (150, [l0, l1, l2, l3, l4, l5], .int 0 :: st, w, k, n) := iconst_e rfl dX3_digest_149 (by decide)
theorem eX3_digest_150 : WP (MX3_digest g) Q (150, [l0, l1, l2, l3, l4, l5], .int a :: st, w, k, n) = WP (MX3_digest g) Q (152, [l0, l1, l2, l3, nl l4, some (.int a)], st, w, k, n) := by rw [WP_at (M := (MX3_digest g)) rfl dX3_digest_150 (Or.inr rfl)]; exact and_t (Nat.le_of_ble_eq_true rfl)
theorem eX3_digest_152 : WP (MX3_digest g) Q (152, [l0, l1, l2, l3, l4, some (.int a)], st, w, k, n) = WP (MX3_digest g) Q (154, [l0, l1, l2, l3, l4, some (.int a)], .int a :: st, w, k, n) := Eq.trans (WP_at (M := (MX3_digest g)) rfl dX3_digest_152 (Or.inr rfl)) rfl
theorem eX3_digest_154 : WP (MX3_digest g) Q (154, [l0, l1, l2, l3, l4, l5], st, w, k, n) = WP (MX3_digest g) Q (155, [l0, l1, l2, l3, l4, l5], .int 4 :: st, w, k, n) := iconst_e rfl dX3_digest_154 (by decide)
theorem eX3_digest_155 : WP (MX3_digest g) Q (155, [l0, l1, l2, l3, l4, l5], .int b :: .int a :: st, w, k, n) = if b ≤ a then WP (MX3_digest g) Q (214, [l0, l1, l2, l3, l4, l5], st, w, k, n) else WP (MX3_digest g) Q (158, [l0, l1, l2, l3, l4, l5], st, w, k, n) := icm_e (b ≤ a) rfl dX3_digest_155 rfl (by decide)
theorem eX3_digest_158 : WP (MX3_digest g) Q (158, [l0, some (.long x), l2, l3, l4, l5], st, w, k, n) = WP (MX3_digest g) Q (159, [l0, some (.long x), l2, l3, l4, l5], .long x :: st, w, k, n) := Eq.trans (WP_at (M := (MX3_digest g)) rfl dX3_digest_158 (Or.inr rfl)) rfl
theorem eX3_digest_159 : WP (MX3_digest g) Q (159, [l0, l1, l2, l3, some (.ref p), l5], st, w, k, n) = WP (MX3_digest g) Q (161, [l0, l1, l2, l3, some (.ref p), l5], .ref p :: st, w, k, n) := Eq.trans (WP_at (M := (MX3_digest g)) rfl dX3_digest_159 (Or.inr rfl)) rfl
theorem eX3_digest_159N : WP (MX3_digest g) Q (159, [l0, l1, l2, l3, some .null, l5], st, w, k, n) = WP (MX3_digest g) Q (161, [l0, l1, l2, l3, some .null, l5], .null :: st, w, k, n) := Eq.trans (WP_at (M := (MX3_digest g)) rfl dX3_digest_159 (Or.inr rfl)) rfl
theorem eX3_digest_161 : WP (MX3_digest g) Q (161, [l0, l1, l2, l3, l4, some (.int a)], st, w, k, n) = WP (MX3_digest g) Q (163, [l0, l1, l2, l3, l4, some (.int a)], .int a :: st, w, k, n) := Eq.trans (WP_at (M := (MX3_digest g)) rfl dX3_digest_161 (Or.inr rfl)) rfl
theorem eX3_digest_163 : WP (MX3_digest g) Q (163, [l0, l1, l2, l3, l4, l5], .int a :: .ref p :: st, w, k, n) = gl (rd g w p) 0 fun N f => vp_in a N ∧ WP (MX3_digest g) Q (164, [l0, l1, l2, l3, l4, l5], .long (f a.toNatClampNeg) :: st, w, k, n) := Eq.trans (WP_at (M := (MX3_digest g)) rfl dX3_digest_163 (Or.inr rfl)) rfl
theorem eX3_digest_164 {z0 : Int64} : WP (MX3_digest g) Q (164, [l0, l1, l2, l3, l4, l5], .long z0 :: st, w, k, n) = (wt st ≤ 8 ∧ k + 0 ≤ 90 ∧ n + 0 ≤ 520 ∧ WP (MX3_high g) (kx (fun v w' => WP (MX3_digest g) Q (167, [l0, l1, l2, l3, l4, l5], v.toList ++ st, w', k + 0, n + 0)) (fun E w' => Q (.inr E) w')) (0, [some (.long z0), none], [], w, 0, 0)) := csS (M := (MX3_digest g)) (mc := (fun _ _ => 0)) (ms := (fun _ _ => 0)) (As := [.long z0]) (rest := st) (MX3_high g) rfl rfl dX3_digest_164 (Nat.ne_of_beq_eq_false rfl) (by exact fun h => nomatch (show (none : Option Nat) = some 12 from h)) (by exact fun h => nomatch (show (none : Option Nat) = some 13 from h)) (by exact fun h => nomatch (show (none : Option Nat) = some 14 from h)) rfl rfl (by decide) (Nat.le_of_ble_eq_true rfl) (Nat.le_of_ble_eq_true rfl) rfl
theorem eX3_digest_167 : WP (MX3_digest g) Q (167, [l0, l1, l2, l3, l4, l5], .int a :: st, w, k, n) = WP (MX3_digest g) Q (168, [l0, l1, l2, l3, l4, l5], .long a.toInt64 :: st, w, k, n) := Eq.trans (WP_at (M := (MX3_digest g)) rfl dX3_digest_167 (Or.inr rfl)) rfl
theorem eX3_digest_168 {z0 : Int64} {z1 : Int64} : WP (MX3_digest g) Q (168, [l0, l1, l2, l3, l4, l5], .long z1 :: .long z0 :: st, w, k, n) = (wt st ≤ 8 ∧ k + 0 ≤ 90 ∧ n + 0 ≤ 520 ∧ WP (MX3_add g) (kx (fun v w' => WP (MX3_digest g) Q (171, [l0, l1, l2, l3, l4, l5], v.toList ++ st, w', k + 0, n + 0)) (fun E w' => Q (.inr E) w')) (0, [some (.long z0), none, some (.long z1), none], [], w, 0, 0)) := csS (M := (MX3_digest g)) (mc := (fun _ _ => 0)) (ms := (fun _ _ => 0)) (As := [.long z0, .long z1]) (rest := st) (MX3_add g) rfl rfl dX3_digest_168 (Nat.ne_of_beq_eq_false rfl) (by exact fun h => nomatch (show (none : Option Nat) = some 12 from h)) (by exact fun h => nomatch (show (none : Option Nat) = some 13 from h)) (by exact fun h => nomatch (show (none : Option Nat) = some 14 from h)) rfl rfl (by decide) (Nat.le_of_ble_eq_true rfl) (Nat.le_of_ble_eq_true rfl) rfl
theorem eX3_digest_171 : WP (MX3_digest g) Q (171, [l0, l1, l2, l3, some (.ref p), l5], st, w, k, n) = WP (MX3_digest g) Q (173, [l0, l1, l2, l3, some (.ref p), l5], .ref p :: st, w, k, n) := Eq.trans (WP_at (M := (MX3_digest g)) rfl dX3_digest_171 (Or.inr rfl)) rfl
theorem eX3_digest_171N : WP (MX3_digest g) Q (171, [l0, l1, l2, l3, some .null, l5], st, w, k, n) = WP (MX3_digest g) Q (173, [l0, l1, l2, l3, some .null, l5], .null :: st, w, k, n) := Eq.trans (WP_at (M := (MX3_digest g)) rfl dX3_digest_171 (Or.inr rfl)) rfl
theorem eX3_digest_173 : WP (MX3_digest g) Q (173, [l0, l1, l2, l3, l4, some (.int a)], st, w, k, n) = WP (MX3_digest g) Q (175, [l0, l1, l2, l3, l4, some (.int a)], .int a :: st, w, k, n) := Eq.trans (WP_at (M := (MX3_digest g)) rfl dX3_digest_173 (Or.inr rfl)) rfl
theorem eX3_digest_175 : WP (MX3_digest g) Q (175, [l0, l1, l2, l3, l4, l5], .int a :: .ref p :: st, w, k, n) = gl (rd g w p) 0 fun N f => vp_in a N ∧ WP (MX3_digest g) Q (176, [l0, l1, l2, l3, l4, l5], .long (f a.toNatClampNeg) :: st, w, k, n) := Eq.trans (WP_at (M := (MX3_digest g)) rfl dX3_digest_175 (Or.inr rfl)) rfl
theorem eX3_digest_176 {z0 : Int64} : WP (MX3_digest g) Q (176, [l0, l1, l2, l3, l4, l5], .long z0 :: st, w, k, n) = (wt st ≤ 8 ∧ k + 0 ≤ 90 ∧ n + 0 ≤ 520 ∧ WP (MX3_low g) (kx (fun v w' => WP (MX3_digest g) Q (179, [l0, l1, l2, l3, l4, l5], v.toList ++ st, w', k + 0, n + 0)) (fun E w' => Q (.inr E) w')) (0, [some (.long z0), none, none, none], [], w, 0, 0)) := csS (M := (MX3_digest g)) (mc := (fun _ _ => 0)) (ms := (fun _ _ => 0)) (As := [.long z0]) (rest := st) (MX3_low g) rfl rfl dX3_digest_176 (Nat.ne_of_beq_eq_false rfl) (by exact fun h => nomatch (show (none : Option Nat) = some 12 from h)) (by exact fun h => nomatch (show (none : Option Nat) = some 13 from h)) (by exact fun h => nomatch (show (none : Option Nat) = some 14 from h)) rfl rfl (by decide) (Nat.le_of_ble_eq_true rfl) (Nat.le_of_ble_eq_true rfl) rfl
theorem eX3_digest_179 : WP (MX3_digest g) Q (179, [l0, l1, l2, l3, l4, l5], .int a :: st, w, k, n) = WP (MX3_digest g) Q (180, [l0, l1, l2, l3, l4, l5], .long a.toInt64 :: st, w, k, n) := Eq.trans (WP_at (M := (MX3_digest g)) rfl dX3_digest_179 (Or.inr rfl)) rfl
theorem eX3_digest_180 {z0 : Int64} {z1 : Int64} : WP (MX3_digest g) Q (180, [l0, l1, l2, l3, l4, l5], .long z1 :: .long z0 :: st, w, k, n) = (wt st ≤ 8 ∧ k + 0 ≤ 90 ∧ n + 0 ≤ 520 ∧ WP (MX3_add g) (kx (fun v w' => WP (MX3_digest g) Q (183, [l0, l1, l2, l3, l4, l5], v.toList ++ st, w', k + 0, n + 0)) (fun E w' => Q (.inr E) w')) (0, [some (.long z0), none, some (.long z1), none], [], w, 0, 0)) := csS (M := (MX3_digest g)) (mc := (fun _ _ => 0)) (ms := (fun _ _ => 0)) (As := [.long z0, .long z1]) (rest := st) (MX3_add g) rfl rfl dX3_digest_180 (Nat.ne_of_beq_eq_false rfl) (by exact fun h => nomatch (show (none : Option Nat) = some 12 from h)) (by exact fun h => nomatch (show (none : Option Nat) = some 13 from h)) (by exact fun h => nomatch (show (none : Option Nat) = some 14 from h)) rfl rfl (by decide) (Nat.le_of_ble_eq_true rfl) (Nat.le_of_ble_eq_true rfl) rfl
theorem eX3_digest_183 : WP (MX3_digest g) Q (183, [l0, l1, l2, l3, some (.ref p), l5], st, w, k, n) = WP (MX3_digest g) Q (185, [l0, l1, l2, l3, some (.ref p), l5], .ref p :: st, w, k, n) := Eq.trans (WP_at (M := (MX3_digest g)) rfl dX3_digest_183 (Or.inr rfl)) rfl
theorem eX3_digest_183N : WP (MX3_digest g) Q (183, [l0, l1, l2, l3, some .null, l5], st, w, k, n) = WP (MX3_digest g) Q (185, [l0, l1, l2, l3, some .null, l5], .null :: st, w, k, n) := Eq.trans (WP_at (M := (MX3_digest g)) rfl dX3_digest_183 (Or.inr rfl)) rfl
theorem eX3_digest_185 : WP (MX3_digest g) Q (185, [l0, l1, l2, l3, l4, some (.int a)], st, w, k, n) = WP (MX3_digest g) Q (187, [l0, l1, l2, l3, l4, some (.int a)], .int a :: st, w, k, n) := Eq.trans (WP_at (M := (MX3_digest g)) rfl dX3_digest_185 (Or.inr rfl)) rfl
theorem eX3_digest_187 : WP (MX3_digest g) Q (187, [l0, l1, l2, l3, l4, l5], st, w, k, n) = WP (MX3_digest g) Q (188, [l0, l1, l2, l3, l4, l5], .int 0 :: st, w, k, n) := iconst_e rfl dX3_digest_187 (by decide)
theorem eX3_digest_188R {z0 : Nat} {z1 : Int32} {z2 : Int32} : WP (MX3_digest g) Q (188, [l0, l1, l2, l3, l4, l5], .int z2 :: .int z1 :: .ref z0 :: st, w, k, n) = (wt st ≤ 8 ∧ k + 0 ≤ 90 ∧ n + 0 ≤ 520 ∧ WP (MX3_aroundNow g) (kx (fun v w' => WP (MX3_digest g) Q (191, [l0, l1, l2, l3, l4, l5], v.toList ++ st, w', k + 0, n + 0)) (fun E w' => Q (.inr E) w')) (0, [some (.ref z0), some (.int z1), some (.int z2), none, none], [], w, 0, 0)) := csS (M := (MX3_digest g)) (mc := (fun _ _ => 0)) (ms := (fun _ _ => 0)) (As := [.ref z0, .int z1, .int z2]) (rest := st) (MX3_aroundNow g) rfl rfl dX3_digest_188 (Nat.ne_of_beq_eq_false rfl) (by exact fun h => nomatch (show (none : Option Nat) = some 12 from h)) (by exact fun h => nomatch (show (none : Option Nat) = some 13 from h)) (by exact fun h => nomatch (show (none : Option Nat) = some 14 from h)) rfl rfl (by decide) (Nat.le_of_ble_eq_true rfl) (Nat.le_of_ble_eq_true rfl) rfl
theorem eX3_digest_188N {z1 : Int32} {z2 : Int32} : WP (MX3_digest g) Q (188, [l0, l1, l2, l3, l4, l5], .int z2 :: .int z1 :: .null :: st, w, k, n) = (wt st ≤ 8 ∧ k + 0 ≤ 90 ∧ n + 0 ≤ 520 ∧ WP (MX3_aroundNow g) (kx (fun v w' => WP (MX3_digest g) Q (191, [l0, l1, l2, l3, l4, l5], v.toList ++ st, w', k + 0, n + 0)) (fun E w' => Q (.inr E) w')) (0, [some .null, some (.int z1), some (.int z2), none, none], [], w, 0, 0)) := csS (M := (MX3_digest g)) (mc := (fun _ _ => 0)) (ms := (fun _ _ => 0)) (As := [.null, .int z1, .int z2]) (rest := st) (MX3_aroundNow g) rfl rfl dX3_digest_188 (Nat.ne_of_beq_eq_false rfl) (by exact fun h => nomatch (show (none : Option Nat) = some 12 from h)) (by exact fun h => nomatch (show (none : Option Nat) = some 13 from h)) (by exact fun h => nomatch (show (none : Option Nat) = some 14 from h)) rfl rfl (by decide) (Nat.le_of_ble_eq_true rfl) (Nat.le_of_ble_eq_true rfl) rfl
theorem eX3_digest_191 : WP (MX3_digest g) Q (191, [l0, l1, l2, l3, l4, l5], .int a :: st, w, k, n) = WP (MX3_digest g) Q (192, [l0, l1, l2, l3, l4, l5], .long a.toInt64 :: st, w, k, n) := Eq.trans (WP_at (M := (MX3_digest g)) rfl dX3_digest_191 (Or.inr rfl)) rfl
theorem eX3_digest_192 {z0 : Int64} {z1 : Int64} : WP (MX3_digest g) Q (192, [l0, l1, l2, l3, l4, l5], .long z1 :: .long z0 :: st, w, k, n) = (wt st ≤ 8 ∧ k + 0 ≤ 90 ∧ n + 0 ≤ 520 ∧ WP (MX3_add g) (kx (fun v w' => WP (MX3_digest g) Q (195, [l0, l1, l2, l3, l4, l5], v.toList ++ st, w', k + 0, n + 0)) (fun E w' => Q (.inr E) w')) (0, [some (.long z0), none, some (.long z1), none], [], w, 0, 0)) := csS (M := (MX3_digest g)) (mc := (fun _ _ => 0)) (ms := (fun _ _ => 0)) (As := [.long z0, .long z1]) (rest := st) (MX3_add g) rfl rfl dX3_digest_192 (Nat.ne_of_beq_eq_false rfl) (by exact fun h => nomatch (show (none : Option Nat) = some 12 from h)) (by exact fun h => nomatch (show (none : Option Nat) = some 13 from h)) (by exact fun h => nomatch (show (none : Option Nat) = some 14 from h)) rfl rfl (by decide) (Nat.le_of_ble_eq_true rfl) (Nat.le_of_ble_eq_true rfl) rfl
theorem eX3_digest_195 : WP (MX3_digest g) Q (195, [l0, l1, l2, l3, some (.ref p), l5], st, w, k, n) = WP (MX3_digest g) Q (197, [l0, l1, l2, l3, some (.ref p), l5], .ref p :: st, w, k, n) := Eq.trans (WP_at (M := (MX3_digest g)) rfl dX3_digest_195 (Or.inr rfl)) rfl
theorem eX3_digest_195N : WP (MX3_digest g) Q (195, [l0, l1, l2, l3, some .null, l5], st, w, k, n) = WP (MX3_digest g) Q (197, [l0, l1, l2, l3, some .null, l5], .null :: st, w, k, n) := Eq.trans (WP_at (M := (MX3_digest g)) rfl dX3_digest_195 (Or.inr rfl)) rfl
theorem eX3_digest_197 : WP (MX3_digest g) Q (197, [l0, l1, l2, l3, l4, some (.int a)], st, w, k, n) = WP (MX3_digest g) Q (199, [l0, l1, l2, l3, l4, some (.int a)], .int a :: st, w, k, n) := Eq.trans (WP_at (M := (MX3_digest g)) rfl dX3_digest_197 (Or.inr rfl)) rfl
theorem eX3_digest_199 : WP (MX3_digest g) Q (199, [l0, l1, l2, l3, l4, l5], st, w, k, n) = WP (MX3_digest g) Q (200, [l0, l1, l2, l3, l4, l5], .int 1 :: st, w, k, n) := iconst_e rfl dX3_digest_199 (by decide)
theorem eX3_digest_200R {z0 : Nat} {z1 : Int32} {z2 : Int32} : WP (MX3_digest g) Q (200, [l0, l1, l2, l3, l4, l5], .int z2 :: .int z1 :: .ref z0 :: st, w, k, n) = (wt st ≤ 8 ∧ k + 0 ≤ 90 ∧ n + 0 ≤ 520 ∧ WP (MX3_aroundNow g) (kx (fun v w' => WP (MX3_digest g) Q (203, [l0, l1, l2, l3, l4, l5], v.toList ++ st, w', k + 0, n + 0)) (fun E w' => Q (.inr E) w')) (0, [some (.ref z0), some (.int z1), some (.int z2), none, none], [], w, 0, 0)) := csS (M := (MX3_digest g)) (mc := (fun _ _ => 0)) (ms := (fun _ _ => 0)) (As := [.ref z0, .int z1, .int z2]) (rest := st) (MX3_aroundNow g) rfl rfl dX3_digest_200 (Nat.ne_of_beq_eq_false rfl) (by exact fun h => nomatch (show (none : Option Nat) = some 12 from h)) (by exact fun h => nomatch (show (none : Option Nat) = some 13 from h)) (by exact fun h => nomatch (show (none : Option Nat) = some 14 from h)) rfl rfl (by decide) (Nat.le_of_ble_eq_true rfl) (Nat.le_of_ble_eq_true rfl) rfl
theorem eX3_digest_200N {z1 : Int32} {z2 : Int32} : WP (MX3_digest g) Q (200, [l0, l1, l2, l3, l4, l5], .int z2 :: .int z1 :: .null :: st, w, k, n) = (wt st ≤ 8 ∧ k + 0 ≤ 90 ∧ n + 0 ≤ 520 ∧ WP (MX3_aroundNow g) (kx (fun v w' => WP (MX3_digest g) Q (203, [l0, l1, l2, l3, l4, l5], v.toList ++ st, w', k + 0, n + 0)) (fun E w' => Q (.inr E) w')) (0, [some .null, some (.int z1), some (.int z2), none, none], [], w, 0, 0)) := csS (M := (MX3_digest g)) (mc := (fun _ _ => 0)) (ms := (fun _ _ => 0)) (As := [.null, .int z1, .int z2]) (rest := st) (MX3_aroundNow g) rfl rfl dX3_digest_200 (Nat.ne_of_beq_eq_false rfl) (by exact fun h => nomatch (show (none : Option Nat) = some 12 from h)) (by exact fun h => nomatch (show (none : Option Nat) = some 13 from h)) (by exact fun h => nomatch (show (none : Option Nat) = some 14 from h)) rfl rfl (by decide) (Nat.le_of_ble_eq_true rfl) (Nat.le_of_ble_eq_true rfl) rfl
theorem eX3_digest_203 : WP (MX3_digest g) Q (203, [l0, l1, l2, l3, l4, l5], .int a :: st, w, k, n) = WP (MX3_digest g) Q (204, [l0, l1, l2, l3, l4, l5], .long a.toInt64 :: st, w, k, n) := Eq.trans (WP_at (M := (MX3_digest g)) rfl dX3_digest_203 (Or.inr rfl)) rfl
theorem eX3_digest_204 {z0 : Int64} {z1 : Int64} : WP (MX3_digest g) Q (204, [l0, l1, l2, l3, l4, l5], .long z1 :: .long z0 :: st, w, k, n) = (wt st ≤ 8 ∧ k + 0 ≤ 90 ∧ n + 0 ≤ 520 ∧ WP (MX3_add g) (kx (fun v w' => WP (MX3_digest g) Q (207, [l0, l1, l2, l3, l4, l5], v.toList ++ st, w', k + 0, n + 0)) (fun E w' => Q (.inr E) w')) (0, [some (.long z0), none, some (.long z1), none], [], w, 0, 0)) := csS (M := (MX3_digest g)) (mc := (fun _ _ => 0)) (ms := (fun _ _ => 0)) (As := [.long z0, .long z1]) (rest := st) (MX3_add g) rfl rfl dX3_digest_204 (Nat.ne_of_beq_eq_false rfl) (by exact fun h => nomatch (show (none : Option Nat) = some 12 from h)) (by exact fun h => nomatch (show (none : Option Nat) = some 13 from h)) (by exact fun h => nomatch (show (none : Option Nat) = some 14 from h)) rfl rfl (by decide) (Nat.le_of_ble_eq_true rfl) (Nat.le_of_ble_eq_true rfl) rfl
theorem eX3_digest_207 : WP (MX3_digest g) Q (207, [l0, l1, l2, l3, l4, l5], .long x :: st, w, k, n) = WP (MX3_digest g) Q (208, [nl l0, some (.long x), none, l3, l4, l5], st, w, k, n) := by rw [WP_at (M := (MX3_digest g)) rfl dX3_digest_207 (Or.inr rfl)]; exact and_t (Nat.le_of_ble_eq_true rfl)
theorem eX3_digest_208 : WP (MX3_digest g) Q (208, [l0, l1, l2, l3, l4, some (.int a)], st, w, k, n) = WP (MX3_digest g) Q (211, [l0, l1, l2, l3, nl l4, some (.int (a + 1))], st, w, k, n) := Eq.trans (iinc_e (M := (MX3_digest g)) (L := [l0, l1, l2, l3, l4, some (.int a)]) (d := 1) rfl dX3_digest_208 (by decide) rfl) rfl
theorem eX3_digest_211 : WP (MX3_digest g) Q (211, [l0, l1, l2, l3, l4, l5], st, w, k, n) = WP (MX3_digest g) Q (152, [l0, l1, l2, l3, l4, l5], st, w, k, n) := goto_e rfl dX3_digest_211 (by decide)
theorem eX3_digest_214 : WP (MX3_digest g) Q (214, [l0, some (.long x), l2, l3, l4, l5], st, w, k, n) = WP (MX3_digest g) Q (215, [l0, some (.long x), l2, l3, l4, l5], .long x :: st, w, k, n) := Eq.trans (WP_at (M := (MX3_digest g)) rfl dX3_digest_214 (Or.inr rfl)) rfl
theorem eX3_digest_215 : WP (MX3_digest g) Q (215, [l0, l1, l2, l3, some (.ref p), l5], st, w, k, n) = WP (MX3_digest g) Q (217, [l0, l1, l2, l3, some (.ref p), l5], .ref p :: st, w, k, n) := Eq.trans (WP_at (M := (MX3_digest g)) rfl dX3_digest_215 (Or.inr rfl)) rfl
theorem eX3_digest_215N : WP (MX3_digest g) Q (215, [l0, l1, l2, l3, some .null, l5], st, w, k, n) = WP (MX3_digest g) Q (217, [l0, l1, l2, l3, some .null, l5], .null :: st, w, k, n) := Eq.trans (WP_at (M := (MX3_digest g)) rfl dX3_digest_215 (Or.inr rfl)) rfl
theorem eX3_digest_217R {z0 : Nat} : WP (MX3_digest g) Q (217, [l0, l1, l2, l3, l4, l5], .ref z0 :: st, w, k, n) = (wt st ≤ 8 ∧ k + 0 ≤ 90 ∧ n + 0 ≤ 520 ∧ WP (MX3_fixed g) (kx (fun v w' => WP (MX3_digest g) Q (220, [l0, l1, l2, l3, l4, l5], v.toList ++ st, w', k + 0, n + 0)) (fun E w' => Q (.inr E) w')) (0, [some (.ref z0)], [], w, 0, 0)) := csS (M := (MX3_digest g)) (mc := (fun _ _ => 0)) (ms := (fun _ _ => 0)) (As := [.ref z0]) (rest := st) (MX3_fixed g) rfl rfl dX3_digest_217 (Nat.ne_of_beq_eq_false rfl) (by exact fun h => nomatch (show (none : Option Nat) = some 12 from h)) (by exact fun h => nomatch (show (none : Option Nat) = some 13 from h)) (by exact fun h => nomatch (show (none : Option Nat) = some 14 from h)) rfl rfl (by decide) (Nat.le_of_ble_eq_true rfl) (Nat.le_of_ble_eq_true rfl) rfl
theorem eX3_digest_217N  : WP (MX3_digest g) Q (217, [l0, l1, l2, l3, l4, l5], .null :: st, w, k, n) = (wt st ≤ 8 ∧ k + 0 ≤ 90 ∧ n + 0 ≤ 520 ∧ WP (MX3_fixed g) (kx (fun v w' => WP (MX3_digest g) Q (220, [l0, l1, l2, l3, l4, l5], v.toList ++ st, w', k + 0, n + 0)) (fun E w' => Q (.inr E) w')) (0, [some .null], [], w, 0, 0)) := csS (M := (MX3_digest g)) (mc := (fun _ _ => 0)) (ms := (fun _ _ => 0)) (As := [.null]) (rest := st) (MX3_fixed g) rfl rfl dX3_digest_217 (Nat.ne_of_beq_eq_false rfl) (by exact fun h => nomatch (show (none : Option Nat) = some 12 from h)) (by exact fun h => nomatch (show (none : Option Nat) = some 13 from h)) (by exact fun h => nomatch (show (none : Option Nat) = some 14 from h)) rfl rfl (by decide) (Nat.le_of_ble_eq_true rfl) (Nat.le_of_ble_eq_true rfl) rfl
theorem eX3_digest_220 {z0 : Int32} : WP (MX3_digest g) Q (220, [l0, l1, l2, l3, l4, l5], .int z0 :: st, w, k, n) = (wt st ≤ 8 ∧ k + 0 ≤ 90 ∧ n + 0 ≤ 520 ∧ WP (MX3_one g) (kx (fun v w' => WP (MX3_digest g) Q (223, [l0, l1, l2, l3, l4, l5], v.toList ++ st, w', k + 0, n + 0)) (fun E w' => Q (.inr E) w')) (0, [some (.int z0)], [], w, 0, 0)) := csS (M := (MX3_digest g)) (mc := (fun _ _ => 0)) (ms := (fun _ _ => 0)) (As := [.int z0]) (rest := st) (MX3_one g) rfl rfl dX3_digest_220 (Nat.ne_of_beq_eq_false rfl) (by exact fun h => nomatch (show (none : Option Nat) = some 12 from h)) (by exact fun h => nomatch (show (none : Option Nat) = some 13 from h)) (by exact fun h => nomatch (show (none : Option Nat) = some 14 from h)) rfl rfl (by decide) (Nat.le_of_ble_eq_true rfl) (Nat.le_of_ble_eq_true rfl) rfl
theorem eX3_digest_223 : WP (MX3_digest g) Q (223, [l0, l1, l2, l3, l4, l5], .int a :: st, w, k, n) = WP (MX3_digest g) Q (224, [l0, l1, l2, l3, l4, l5], .long a.toInt64 :: st, w, k, n) := Eq.trans (WP_at (M := (MX3_digest g)) rfl dX3_digest_223 (Or.inr rfl)) rfl
theorem eX3_digest_224 {z0 : Int64} {z1 : Int64} : WP (MX3_digest g) Q (224, [l0, l1, l2, l3, l4, l5], .long z1 :: .long z0 :: st, w, k, n) = (wt st ≤ 8 ∧ k + 0 ≤ 90 ∧ n + 0 ≤ 520 ∧ WP (MX3_add g) (kx (fun v w' => WP (MX3_digest g) Q (227, [l0, l1, l2, l3, l4, l5], v.toList ++ st, w', k + 0, n + 0)) (fun E w' => Q (.inr E) w')) (0, [some (.long z0), none, some (.long z1), none], [], w, 0, 0)) := csS (M := (MX3_digest g)) (mc := (fun _ _ => 0)) (ms := (fun _ _ => 0)) (As := [.long z0, .long z1]) (rest := st) (MX3_add g) rfl rfl dX3_digest_224 (Nat.ne_of_beq_eq_false rfl) (by exact fun h => nomatch (show (none : Option Nat) = some 12 from h)) (by exact fun h => nomatch (show (none : Option Nat) = some 13 from h)) (by exact fun h => nomatch (show (none : Option Nat) = some 14 from h)) rfl rfl (by decide) (Nat.le_of_ble_eq_true rfl) (Nat.le_of_ble_eq_true rfl) rfl
theorem eX3_digest_227 : WP (MX3_digest g) Q (227, [l0, l1, l2, l3, some (.ref p), l5], st, w, k, n) = WP (MX3_digest g) Q (229, [l0, l1, l2, l3, some (.ref p), l5], .ref p :: st, w, k, n) := Eq.trans (WP_at (M := (MX3_digest g)) rfl dX3_digest_227 (Or.inr rfl)) rfl
theorem eX3_digest_227N : WP (MX3_digest g) Q (227, [l0, l1, l2, l3, some .null, l5], st, w, k, n) = WP (MX3_digest g) Q (229, [l0, l1, l2, l3, some .null, l5], .null :: st, w, k, n) := Eq.trans (WP_at (M := (MX3_digest g)) rfl dX3_digest_227 (Or.inr rfl)) rfl
theorem eX3_digest_229R {z0 : Nat} : WP (MX3_digest g) Q (229, [l0, l1, l2, l3, l4, l5], .ref z0 :: st, w, k, n) = (wt st ≤ 8 ∧ k + 0 ≤ 90 ∧ n + 0 ≤ 520 ∧ WP (MX3_small g) (kx (fun v w' => WP (MX3_digest g) Q (232, [l0, l1, l2, l3, l4, l5], v.toList ++ st, w', k + 0, n + 0)) (fun E w' => Q (.inr E) w')) (0, [some (.ref z0)], [], w, 0, 0)) := csS (M := (MX3_digest g)) (mc := (fun _ _ => 0)) (ms := (fun _ _ => 0)) (As := [.ref z0]) (rest := st) (MX3_small g) rfl rfl dX3_digest_229 (Nat.ne_of_beq_eq_false rfl) (by exact fun h => nomatch (show (none : Option Nat) = some 12 from h)) (by exact fun h => nomatch (show (none : Option Nat) = some 13 from h)) (by exact fun h => nomatch (show (none : Option Nat) = some 14 from h)) rfl rfl (by decide) (Nat.le_of_ble_eq_true rfl) (Nat.le_of_ble_eq_true rfl) rfl
theorem eX3_digest_229N  : WP (MX3_digest g) Q (229, [l0, l1, l2, l3, l4, l5], .null :: st, w, k, n) = (wt st ≤ 8 ∧ k + 0 ≤ 90 ∧ n + 0 ≤ 520 ∧ WP (MX3_small g) (kx (fun v w' => WP (MX3_digest g) Q (232, [l0, l1, l2, l3, l4, l5], v.toList ++ st, w', k + 0, n + 0)) (fun E w' => Q (.inr E) w')) (0, [some .null], [], w, 0, 0)) := csS (M := (MX3_digest g)) (mc := (fun _ _ => 0)) (ms := (fun _ _ => 0)) (As := [.null]) (rest := st) (MX3_small g) rfl rfl dX3_digest_229 (Nat.ne_of_beq_eq_false rfl) (by exact fun h => nomatch (show (none : Option Nat) = some 12 from h)) (by exact fun h => nomatch (show (none : Option Nat) = some 13 from h)) (by exact fun h => nomatch (show (none : Option Nat) = some 14 from h)) rfl rfl (by decide) (Nat.le_of_ble_eq_true rfl) (Nat.le_of_ble_eq_true rfl) rfl
theorem eX3_digest_232 {z0 : Int32} : WP (MX3_digest g) Q (232, [l0, l1, l2, l3, l4, l5], .int z0 :: st, w, k, n) = (wt st ≤ 8 ∧ k + 0 ≤ 90 ∧ n + 0 ≤ 520 ∧ WP (MX3_one g) (kx (fun v w' => WP (MX3_digest g) Q (235, [l0, l1, l2, l3, l4, l5], v.toList ++ st, w', k + 0, n + 0)) (fun E w' => Q (.inr E) w')) (0, [some (.int z0)], [], w, 0, 0)) := csS (M := (MX3_digest g)) (mc := (fun _ _ => 0)) (ms := (fun _ _ => 0)) (As := [.int z0]) (rest := st) (MX3_one g) rfl rfl dX3_digest_232 (Nat.ne_of_beq_eq_false rfl) (by exact fun h => nomatch (show (none : Option Nat) = some 12 from h)) (by exact fun h => nomatch (show (none : Option Nat) = some 13 from h)) (by exact fun h => nomatch (show (none : Option Nat) = some 14 from h)) rfl rfl (by decide) (Nat.le_of_ble_eq_true rfl) (Nat.le_of_ble_eq_true rfl) rfl
theorem eX3_digest_235 : WP (MX3_digest g) Q (235, [l0, l1, l2, l3, l4, l5], .int a :: st, w, k, n) = WP (MX3_digest g) Q (236, [l0, l1, l2, l3, l4, l5], .long a.toInt64 :: st, w, k, n) := Eq.trans (WP_at (M := (MX3_digest g)) rfl dX3_digest_235 (Or.inr rfl)) rfl
theorem eX3_digest_236 {z0 : Int64} {z1 : Int64} : WP (MX3_digest g) Q (236, [l0, l1, l2, l3, l4, l5], .long z1 :: .long z0 :: st, w, k, n) = (wt st ≤ 8 ∧ k + 0 ≤ 90 ∧ n + 0 ≤ 520 ∧ WP (MX3_add g) (kx (fun v w' => WP (MX3_digest g) Q (239, [l0, l1, l2, l3, l4, l5], v.toList ++ st, w', k + 0, n + 0)) (fun E w' => Q (.inr E) w')) (0, [some (.long z0), none, some (.long z1), none], [], w, 0, 0)) := csS (M := (MX3_digest g)) (mc := (fun _ _ => 0)) (ms := (fun _ _ => 0)) (As := [.long z0, .long z1]) (rest := st) (MX3_add g) rfl rfl dX3_digest_236 (Nat.ne_of_beq_eq_false rfl) (by exact fun h => nomatch (show (none : Option Nat) = some 12 from h)) (by exact fun h => nomatch (show (none : Option Nat) = some 13 from h)) (by exact fun h => nomatch (show (none : Option Nat) = some 14 from h)) rfl rfl (by decide) (Nat.le_of_ble_eq_true rfl) (Nat.le_of_ble_eq_true rfl) rfl
theorem eX3_digest_239 : WP (MX3_digest g) Q (239, [some (.ref p), l1, l2, l3, l4, l5], st, w, k, n) = WP (MX3_digest g) Q (240, [some (.ref p), l1, l2, l3, l4, l5], .ref p :: st, w, k, n) := Eq.trans (WP_at (M := (MX3_digest g)) rfl dX3_digest_239 (Or.inr rfl)) rfl
theorem eX3_digest_239N : WP (MX3_digest g) Q (239, [some .null, l1, l2, l3, l4, l5], st, w, k, n) = WP (MX3_digest g) Q (240, [some .null, l1, l2, l3, l4, l5], .null :: st, w, k, n) := Eq.trans (WP_at (M := (MX3_digest g)) rfl dX3_digest_239 (Or.inr rfl)) rfl
theorem eX3_digest_240 : WP (MX3_digest g) Q (240, [l0, l1, l2, some (.int a), l4, l5], st, w, k, n) = WP (MX3_digest g) Q (241, [l0, l1, l2, some (.int a), l4, l5], .int a :: st, w, k, n) := Eq.trans (WP_at (M := (MX3_digest g)) rfl dX3_digest_240 (Or.inr rfl)) rfl
theorem eX3_digest_241 {z0 : Int32} : WP (MX3_digest g) Q (241, [l0, l1, l2, l3, l4, l5], .int z0 :: .ref p :: st, w, k, n) = (go (rd g w p) 7 (fun _ => True) ∧ wt st ≤ 8 ∧ k + 0 ≤ 90 ∧ n + 0 ≤ 520 ∧ WP (MX3_likesNow g) (kx (fun v w' => WP (MX3_digest g) Q (244, [l0, l1, l2, l3, l4, l5], v.toList ++ st, w', k + 0, n + 0)) (fun E w' => Q (.inr E) w')) (0, [some (.ref p), some (.int z0), none, none], [], w, 0, 0)) := csV (M := (MX3_digest g)) (mc := (fun _ _ => 0)) (ms := (fun _ _ => 0)) (As := [.int z0]) (rest := st) (MX3_likesNow g) rfl rfl dX3_digest_241 (by exact fun h => nomatch (show (none : Option Nat) = some 11 from h)) (by exact fun h => nomatch (show (none : Option Nat) = some 15 from h)) rfl rfl (by decide) (Nat.le_of_ble_eq_true rfl) (Nat.le_of_ble_eq_true rfl) rfl
theorem eX3_digest_244 : WP (MX3_digest g) Q (244, [l0, l1, l2, l3, l4, l5], .int a :: st, w, k, n) = WP (MX3_digest g) Q (245, [l0, l1, l2, l3, l4, l5], .long a.toInt64 :: st, w, k, n) := Eq.trans (WP_at (M := (MX3_digest g)) rfl dX3_digest_244 (Or.inr rfl)) rfl
theorem eX3_digest_245 {z0 : Int64} {z1 : Int64} : WP (MX3_digest g) Q (245, [l0, l1, l2, l3, l4, l5], .long z1 :: .long z0 :: st, w, k, n) = (wt st ≤ 8 ∧ k + 0 ≤ 90 ∧ n + 0 ≤ 520 ∧ WP (MX3_add g) (kx (fun v w' => WP (MX3_digest g) Q (248, [l0, l1, l2, l3, l4, l5], v.toList ++ st, w', k + 0, n + 0)) (fun E w' => Q (.inr E) w')) (0, [some (.long z0), none, some (.long z1), none], [], w, 0, 0)) := csS (M := (MX3_digest g)) (mc := (fun _ _ => 0)) (ms := (fun _ _ => 0)) (As := [.long z0, .long z1]) (rest := st) (MX3_add g) rfl rfl dX3_digest_245 (Nat.ne_of_beq_eq_false rfl) (by exact fun h => nomatch (show (none : Option Nat) = some 12 from h)) (by exact fun h => nomatch (show (none : Option Nat) = some 13 from h)) (by exact fun h => nomatch (show (none : Option Nat) = some 14 from h)) rfl rfl (by decide) (Nat.le_of_ble_eq_true rfl) (Nat.le_of_ble_eq_true rfl) rfl
theorem eX3_digest_248 : WP (MX3_digest g) Q (248, [l0, l1, l2, l3, l4, l5], .long x :: st, w, k, n) = WP (MX3_digest g) Q (249, [nl l0, some (.long x), none, l3, l4, l5], st, w, k, n) := by rw [WP_at (M := (MX3_digest g)) rfl dX3_digest_248 (Or.inr rfl)]; exact and_t (Nat.le_of_ble_eq_true rfl)
theorem eX3_digest_249 : WP (MX3_digest g) Q (249, [l0, some (.long x), l2, l3, l4, l5], st, w, k, n) = WP (MX3_digest g) Q (250, [l0, some (.long x), l2, l3, l4, l5], .long x :: st, w, k, n) := Eq.trans (WP_at (M := (MX3_digest g)) rfl dX3_digest_249 (Or.inr rfl)) rfl
theorem eX3_digest_250 : WP (MX3_digest g) Q (250, [some (.ref p), l1, l2, l3, l4, l5], st, w, k, n) = WP (MX3_digest g) Q (251, [some (.ref p), l1, l2, l3, l4, l5], .ref p :: st, w, k, n) := Eq.trans (WP_at (M := (MX3_digest g)) rfl dX3_digest_250 (Or.inr rfl)) rfl
theorem eX3_digest_250N : WP (MX3_digest g) Q (250, [some .null, l1, l2, l3, l4, l5], st, w, k, n) = WP (MX3_digest g) Q (251, [some .null, l1, l2, l3, l4, l5], .null :: st, w, k, n) := Eq.trans (WP_at (M := (MX3_digest g)) rfl dX3_digest_250 (Or.inr rfl)) rfl
theorem eX3_digest_251 : WP (MX3_digest g) Q (251, [l0, l1, l2, some (.int a), l4, l5], st, w, k, n) = WP (MX3_digest g) Q (252, [l0, l1, l2, some (.int a), l4, l5], .int a :: st, w, k, n) := Eq.trans (WP_at (M := (MX3_digest g)) rfl dX3_digest_251 (Or.inr rfl)) rfl
theorem eX3_digest_252 : WP (MX3_digest g) Q (252, [l0, l1, l2, l3, l4, l5], st, w, k, n) = WP (MX3_digest g) Q (253, [l0, l1, l2, l3, l4, l5], .int 0 :: st, w, k, n) := iconst_e rfl dX3_digest_252 (by decide)
theorem eX3_digest_253 {z0 : Int32} {z1 : Int32} : WP (MX3_digest g) Q (253, [l0, l1, l2, l3, l4, l5], .int z1 :: .int z0 :: .ref p :: st, w, k, n) = (go (rd g w p) 7 (fun _ => True) ∧ wt st ≤ 8 ∧ k + 0 ≤ 90 ∧ n + 0 ≤ 520 ∧ WP (MX3_seekNow g) (kx (fun v w' => WP (MX3_digest g) Q (256, [l0, l1, l2, l3, l4, l5], v.toList ++ st, w', k + 0, n + 0)) (fun E w' => Q (.inr E) w')) (0, [some (.ref p), some (.int z0), some (.int z1), none, none], [], w, 0, 0)) := csV (M := (MX3_digest g)) (mc := (fun _ _ => 0)) (ms := (fun _ _ => 0)) (As := [.int z0, .int z1]) (rest := st) (MX3_seekNow g) rfl rfl dX3_digest_253 (by exact fun h => nomatch (show (none : Option Nat) = some 11 from h)) (by exact fun h => nomatch (show (none : Option Nat) = some 15 from h)) rfl rfl (by decide) (Nat.le_of_ble_eq_true rfl) (Nat.le_of_ble_eq_true rfl) rfl
theorem eX3_digest_256 : WP (MX3_digest g) Q (256, [l0, l1, l2, l3, l4, l5], .int a :: st, w, k, n) = WP (MX3_digest g) Q (257, [l0, l1, l2, l3, l4, l5], .long a.toInt64 :: st, w, k, n) := Eq.trans (WP_at (M := (MX3_digest g)) rfl dX3_digest_256 (Or.inr rfl)) rfl
theorem eX3_digest_257 {z0 : Int64} {z1 : Int64} : WP (MX3_digest g) Q (257, [l0, l1, l2, l3, l4, l5], .long z1 :: .long z0 :: st, w, k, n) = (wt st ≤ 8 ∧ k + 0 ≤ 90 ∧ n + 0 ≤ 520 ∧ WP (MX3_add g) (kx (fun v w' => WP (MX3_digest g) Q (260, [l0, l1, l2, l3, l4, l5], v.toList ++ st, w', k + 0, n + 0)) (fun E w' => Q (.inr E) w')) (0, [some (.long z0), none, some (.long z1), none], [], w, 0, 0)) := csS (M := (MX3_digest g)) (mc := (fun _ _ => 0)) (ms := (fun _ _ => 0)) (As := [.long z0, .long z1]) (rest := st) (MX3_add g) rfl rfl dX3_digest_257 (Nat.ne_of_beq_eq_false rfl) (by exact fun h => nomatch (show (none : Option Nat) = some 12 from h)) (by exact fun h => nomatch (show (none : Option Nat) = some 13 from h)) (by exact fun h => nomatch (show (none : Option Nat) = some 14 from h)) rfl rfl (by decide) (Nat.le_of_ble_eq_true rfl) (Nat.le_of_ble_eq_true rfl) rfl
theorem eX3_digest_260 : WP (MX3_digest g) Q (260, [some (.ref p), l1, l2, l3, l4, l5], st, w, k, n) = WP (MX3_digest g) Q (261, [some (.ref p), l1, l2, l3, l4, l5], .ref p :: st, w, k, n) := Eq.trans (WP_at (M := (MX3_digest g)) rfl dX3_digest_260 (Or.inr rfl)) rfl
theorem eX3_digest_260N : WP (MX3_digest g) Q (260, [some .null, l1, l2, l3, l4, l5], st, w, k, n) = WP (MX3_digest g) Q (261, [some .null, l1, l2, l3, l4, l5], .null :: st, w, k, n) := Eq.trans (WP_at (M := (MX3_digest g)) rfl dX3_digest_260 (Or.inr rfl)) rfl
theorem eX3_digest_261 : WP (MX3_digest g) Q (261, [l0, l1, l2, some (.int a), l4, l5], st, w, k, n) = WP (MX3_digest g) Q (262, [l0, l1, l2, some (.int a), l4, l5], .int a :: st, w, k, n) := Eq.trans (WP_at (M := (MX3_digest g)) rfl dX3_digest_261 (Or.inr rfl)) rfl
theorem eX3_digest_262 : WP (MX3_digest g) Q (262, [l0, l1, l2, l3, l4, l5], st, w, k, n) = WP (MX3_digest g) Q (263, [l0, l1, l2, l3, l4, l5], .int 1 :: st, w, k, n) := iconst_e rfl dX3_digest_262 (by decide)
theorem eX3_digest_263 {z0 : Int32} {z1 : Int32} : WP (MX3_digest g) Q (263, [l0, l1, l2, l3, l4, l5], .int z1 :: .int z0 :: .ref p :: st, w, k, n) = (go (rd g w p) 7 (fun _ => True) ∧ wt st ≤ 8 ∧ k + 0 ≤ 90 ∧ n + 0 ≤ 520 ∧ WP (MX3_seekNow g) (kx (fun v w' => WP (MX3_digest g) Q (266, [l0, l1, l2, l3, l4, l5], v.toList ++ st, w', k + 0, n + 0)) (fun E w' => Q (.inr E) w')) (0, [some (.ref p), some (.int z0), some (.int z1), none, none], [], w, 0, 0)) := csV (M := (MX3_digest g)) (mc := (fun _ _ => 0)) (ms := (fun _ _ => 0)) (As := [.int z0, .int z1]) (rest := st) (MX3_seekNow g) rfl rfl dX3_digest_263 (by exact fun h => nomatch (show (none : Option Nat) = some 11 from h)) (by exact fun h => nomatch (show (none : Option Nat) = some 15 from h)) rfl rfl (by decide) (Nat.le_of_ble_eq_true rfl) (Nat.le_of_ble_eq_true rfl) rfl
theorem eX3_digest_266 : WP (MX3_digest g) Q (266, [l0, l1, l2, l3, l4, l5], .int a :: st, w, k, n) = WP (MX3_digest g) Q (267, [l0, l1, l2, l3, l4, l5], .long a.toInt64 :: st, w, k, n) := Eq.trans (WP_at (M := (MX3_digest g)) rfl dX3_digest_266 (Or.inr rfl)) rfl
theorem eX3_digest_267 {z0 : Int64} {z1 : Int64} : WP (MX3_digest g) Q (267, [l0, l1, l2, l3, l4, l5], .long z1 :: .long z0 :: st, w, k, n) = (wt st ≤ 8 ∧ k + 0 ≤ 90 ∧ n + 0 ≤ 520 ∧ WP (MX3_add g) (kx (fun v w' => WP (MX3_digest g) Q (270, [l0, l1, l2, l3, l4, l5], v.toList ++ st, w', k + 0, n + 0)) (fun E w' => Q (.inr E) w')) (0, [some (.long z0), none, some (.long z1), none], [], w, 0, 0)) := csS (M := (MX3_digest g)) (mc := (fun _ _ => 0)) (ms := (fun _ _ => 0)) (As := [.long z0, .long z1]) (rest := st) (MX3_add g) rfl rfl dX3_digest_267 (Nat.ne_of_beq_eq_false rfl) (by exact fun h => nomatch (show (none : Option Nat) = some 12 from h)) (by exact fun h => nomatch (show (none : Option Nat) = some 13 from h)) (by exact fun h => nomatch (show (none : Option Nat) = some 14 from h)) rfl rfl (by decide) (Nat.le_of_ble_eq_true rfl) (Nat.le_of_ble_eq_true rfl) rfl
theorem eX3_digest_270 : WP (MX3_digest g) Q (270, [some (.ref p), l1, l2, l3, l4, l5], st, w, k, n) = WP (MX3_digest g) Q (271, [some (.ref p), l1, l2, l3, l4, l5], .ref p :: st, w, k, n) := Eq.trans (WP_at (M := (MX3_digest g)) rfl dX3_digest_270 (Or.inr rfl)) rfl
theorem eX3_digest_270N : WP (MX3_digest g) Q (270, [some .null, l1, l2, l3, l4, l5], st, w, k, n) = WP (MX3_digest g) Q (271, [some .null, l1, l2, l3, l4, l5], .null :: st, w, k, n) := Eq.trans (WP_at (M := (MX3_digest g)) rfl dX3_digest_270 (Or.inr rfl)) rfl
theorem eX3_digest_271 : WP (MX3_digest g) Q (271, [l0, l1, l2, some (.int a), l4, l5], st, w, k, n) = WP (MX3_digest g) Q (272, [l0, l1, l2, some (.int a), l4, l5], .int a :: st, w, k, n) := Eq.trans (WP_at (M := (MX3_digest g)) rfl dX3_digest_271 (Or.inr rfl)) rfl
theorem eX3_digest_272 {z0 : Int32} : WP (MX3_digest g) Q (272, [l0, l1, l2, l3, l4, l5], .int z0 :: .ref p :: st, w, k, n) = (go (rd g w p) 7 (fun _ => True) ∧ wt st ≤ 8 ∧ k + 1 ≤ 90 ∧ n + 4 ≤ 520 ∧ WP (MX3_oftenNow g) (kx (fun v w' => WP (MX3_digest g) Q (275, [l0, l1, l2, l3, l4, l5], v.toList ++ st, w', k + 1, n + 4)) (fun E w' => Q (.inr E) w')) (0, [some (.ref p), some (.int z0), none, none, none], [], w, 0, 0)) := csV (M := (MX3_digest g)) (mc := (fun _ _ => 1)) (ms := (fun _ _ => 4)) (As := [.int z0]) (rest := st) (MX3_oftenNow g) rfl rfl dX3_digest_272 (by exact fun h => nomatch (show (none : Option Nat) = some 11 from h)) (by exact fun h => nomatch (show (none : Option Nat) = some 15 from h)) rfl rfl (by decide) (Nat.le_of_ble_eq_true rfl) (Nat.le_of_ble_eq_true rfl) rfl
theorem eX3_digest_275 : WP (MX3_digest g) Q (275, [l0, l1, l2, l3, l4, l5], .int a :: st, w, k, n) = WP (MX3_digest g) Q (276, [l0, l1, l2, l3, l4, l5], .long a.toInt64 :: st, w, k, n) := Eq.trans (WP_at (M := (MX3_digest g)) rfl dX3_digest_275 (Or.inr rfl)) rfl
theorem eX3_digest_276 {z0 : Int64} {z1 : Int64} : WP (MX3_digest g) Q (276, [l0, l1, l2, l3, l4, l5], .long z1 :: .long z0 :: st, w, k, n) = (wt st ≤ 8 ∧ k + 0 ≤ 90 ∧ n + 0 ≤ 520 ∧ WP (MX3_add g) (kx (fun v w' => WP (MX3_digest g) Q (279, [l0, l1, l2, l3, l4, l5], v.toList ++ st, w', k + 0, n + 0)) (fun E w' => Q (.inr E) w')) (0, [some (.long z0), none, some (.long z1), none], [], w, 0, 0)) := csS (M := (MX3_digest g)) (mc := (fun _ _ => 0)) (ms := (fun _ _ => 0)) (As := [.long z0, .long z1]) (rest := st) (MX3_add g) rfl rfl dX3_digest_276 (Nat.ne_of_beq_eq_false rfl) (by exact fun h => nomatch (show (none : Option Nat) = some 12 from h)) (by exact fun h => nomatch (show (none : Option Nat) = some 13 from h)) (by exact fun h => nomatch (show (none : Option Nat) = some 14 from h)) rfl rfl (by decide) (Nat.le_of_ble_eq_true rfl) (Nat.le_of_ble_eq_true rfl) rfl
theorem eX3_digest_279 : WP (MX3_digest g) Q (279, [l0, l1, l2, l3, l4, l5], .long x :: st, w, k, n) = WP (MX3_digest g) Q (280, [nl l0, some (.long x), none, l3, l4, l5], st, w, k, n) := by rw [WP_at (M := (MX3_digest g)) rfl dX3_digest_279 (Or.inr rfl)]; exact and_t (Nat.le_of_ble_eq_true rfl)
theorem eX3_digest_280 : WP (MX3_digest g) Q (280, [l0, l1, l2, l3, l4, l5], st, w, k, n) = WP (MX3_digest g) Q (281, [l0, l1, l2, l3, l4, l5], .int (-1) :: st, w, k, n) := iconst_e rfl dX3_digest_280 (by decide)
theorem eX3_digest_281 : WP (MX3_digest g) Q (281, [l0, l1, l2, l3, l4, l5], .int a :: st, w, k, n) = WP (MX3_digest g) Q (283, [l0, l1, l2, l3, nl l4, some (.int a)], st, w, k, n) := by rw [WP_at (M := (MX3_digest g)) rfl dX3_digest_281 (Or.inr rfl)]; exact and_t (Nat.le_of_ble_eq_true rfl)
theorem eX3_digest_283 : WP (MX3_digest g) Q (283, [l0, l1, l2, l3, l4, some (.int a)], st, w, k, n) = WP (MX3_digest g) Q (285, [l0, l1, l2, l3, l4, some (.int a)], .int a :: st, w, k, n) := Eq.trans (WP_at (M := (MX3_digest g)) rfl dX3_digest_283 (Or.inr rfl)) rfl
theorem eX3_digest_285 : WP (MX3_digest g) Q (285, [l0, l1, l2, l3, l4, l5], st, w, k, n) = WP (MX3_digest g) Q (286, [l0, l1, l2, l3, l4, l5], .int 1 :: st, w, k, n) := iconst_e rfl dX3_digest_285 (by decide)
theorem eX3_digest_286 : WP (MX3_digest g) Q (286, [l0, l1, l2, l3, l4, l5], .int b :: .int a :: st, w, k, n) = if b < a then WP (MX3_digest g) Q (308, [l0, l1, l2, l3, l4, l5], st, w, k, n) else WP (MX3_digest g) Q (289, [l0, l1, l2, l3, l4, l5], st, w, k, n) := icm_e (b < a) rfl dX3_digest_286 rfl (by decide)
theorem eX3_digest_289 : WP (MX3_digest g) Q (289, [l0, some (.long x), l2, l3, l4, l5], st, w, k, n) = WP (MX3_digest g) Q (290, [l0, some (.long x), l2, l3, l4, l5], .long x :: st, w, k, n) := Eq.trans (WP_at (M := (MX3_digest g)) rfl dX3_digest_289 (Or.inr rfl)) rfl
theorem eX3_digest_290 : WP (MX3_digest g) Q (290, [l0, l1, l2, l3, some (.ref p), l5], st, w, k, n) = WP (MX3_digest g) Q (292, [l0, l1, l2, l3, some (.ref p), l5], .ref p :: st, w, k, n) := Eq.trans (WP_at (M := (MX3_digest g)) rfl dX3_digest_290 (Or.inr rfl)) rfl
theorem eX3_digest_290N : WP (MX3_digest g) Q (290, [l0, l1, l2, l3, some .null, l5], st, w, k, n) = WP (MX3_digest g) Q (292, [l0, l1, l2, l3, some .null, l5], .null :: st, w, k, n) := Eq.trans (WP_at (M := (MX3_digest g)) rfl dX3_digest_290 (Or.inr rfl)) rfl
theorem eX3_digest_292 : WP (MX3_digest g) Q (292, [l0, l1, l2, l3, l4, some (.int a)], st, w, k, n) = WP (MX3_digest g) Q (294, [l0, l1, l2, l3, l4, some (.int a)], .int a :: st, w, k, n) := Eq.trans (WP_at (M := (MX3_digest g)) rfl dX3_digest_292 (Or.inr rfl)) rfl
theorem eX3_digest_294R {z0 : Nat} {z1 : Int32} : WP (MX3_digest g) Q (294, [l0, l1, l2, l3, l4, l5], .int z1 :: .ref z0 :: st, w, k, n) = (wt st ≤ 8 ∧ k + 0 ≤ 90 ∧ n + 0 ≤ 520 ∧ WP (MX3_whichNow g) (kx (fun v w' => WP (MX3_digest g) Q (297, [l0, l1, l2, l3, l4, l5], v.toList ++ st, w', k + 0, n + 0)) (fun E w' => Q (.inr E) w')) (0, [some (.ref z0), some (.int z1)], [], w, 0, 0)) := csS (M := (MX3_digest g)) (mc := (fun _ _ => 0)) (ms := (fun _ _ => 0)) (As := [.ref z0, .int z1]) (rest := st) (MX3_whichNow g) rfl rfl dX3_digest_294 (Nat.ne_of_beq_eq_false rfl) (by exact fun h => nomatch (show (none : Option Nat) = some 12 from h)) (by exact fun h => nomatch (show (none : Option Nat) = some 13 from h)) (by exact fun h => nomatch (show (none : Option Nat) = some 14 from h)) rfl rfl (by decide) (Nat.le_of_ble_eq_true rfl) (Nat.le_of_ble_eq_true rfl) rfl
theorem eX3_digest_294N {z1 : Int32} : WP (MX3_digest g) Q (294, [l0, l1, l2, l3, l4, l5], .int z1 :: .null :: st, w, k, n) = (wt st ≤ 8 ∧ k + 0 ≤ 90 ∧ n + 0 ≤ 520 ∧ WP (MX3_whichNow g) (kx (fun v w' => WP (MX3_digest g) Q (297, [l0, l1, l2, l3, l4, l5], v.toList ++ st, w', k + 0, n + 0)) (fun E w' => Q (.inr E) w')) (0, [some .null, some (.int z1)], [], w, 0, 0)) := csS (M := (MX3_digest g)) (mc := (fun _ _ => 0)) (ms := (fun _ _ => 0)) (As := [.null, .int z1]) (rest := st) (MX3_whichNow g) rfl rfl dX3_digest_294 (Nat.ne_of_beq_eq_false rfl) (by exact fun h => nomatch (show (none : Option Nat) = some 12 from h)) (by exact fun h => nomatch (show (none : Option Nat) = some 13 from h)) (by exact fun h => nomatch (show (none : Option Nat) = some 14 from h)) rfl rfl (by decide) (Nat.le_of_ble_eq_true rfl) (Nat.le_of_ble_eq_true rfl) rfl
theorem eX3_digest_297 : WP (MX3_digest g) Q (297, [l0, l1, l2, l3, l4, l5], .int a :: st, w, k, n) = WP (MX3_digest g) Q (298, [l0, l1, l2, l3, l4, l5], .long a.toInt64 :: st, w, k, n) := Eq.trans (WP_at (M := (MX3_digest g)) rfl dX3_digest_297 (Or.inr rfl)) rfl
theorem eX3_digest_298 {z0 : Int64} {z1 : Int64} : WP (MX3_digest g) Q (298, [l0, l1, l2, l3, l4, l5], .long z1 :: .long z0 :: st, w, k, n) = (wt st ≤ 8 ∧ k + 0 ≤ 90 ∧ n + 0 ≤ 520 ∧ WP (MX3_add g) (kx (fun v w' => WP (MX3_digest g) Q (301, [l0, l1, l2, l3, l4, l5], v.toList ++ st, w', k + 0, n + 0)) (fun E w' => Q (.inr E) w')) (0, [some (.long z0), none, some (.long z1), none], [], w, 0, 0)) := csS (M := (MX3_digest g)) (mc := (fun _ _ => 0)) (ms := (fun _ _ => 0)) (As := [.long z0, .long z1]) (rest := st) (MX3_add g) rfl rfl dX3_digest_298 (Nat.ne_of_beq_eq_false rfl) (by exact fun h => nomatch (show (none : Option Nat) = some 12 from h)) (by exact fun h => nomatch (show (none : Option Nat) = some 13 from h)) (by exact fun h => nomatch (show (none : Option Nat) = some 14 from h)) rfl rfl (by decide) (Nat.le_of_ble_eq_true rfl) (Nat.le_of_ble_eq_true rfl) rfl
theorem eX3_digest_301 : WP (MX3_digest g) Q (301, [l0, l1, l2, l3, l4, l5], .long x :: st, w, k, n) = WP (MX3_digest g) Q (302, [nl l0, some (.long x), none, l3, l4, l5], st, w, k, n) := by rw [WP_at (M := (MX3_digest g)) rfl dX3_digest_301 (Or.inr rfl)]; exact and_t (Nat.le_of_ble_eq_true rfl)
theorem eX3_digest_302 : WP (MX3_digest g) Q (302, [l0, l1, l2, l3, l4, some (.int a)], st, w, k, n) = WP (MX3_digest g) Q (305, [l0, l1, l2, l3, nl l4, some (.int (a + 1))], st, w, k, n) := Eq.trans (iinc_e (M := (MX3_digest g)) (L := [l0, l1, l2, l3, l4, some (.int a)]) (d := 1) rfl dX3_digest_302 (by decide) rfl) rfl
theorem eX3_digest_305 : WP (MX3_digest g) Q (305, [l0, l1, l2, l3, l4, l5], st, w, k, n) = WP (MX3_digest g) Q (283, [l0, l1, l2, l3, l4, l5], st, w, k, n) := goto_e rfl dX3_digest_305 (by decide)
theorem eX3_digest_308 : WP (MX3_digest g) Q (308, [l0, l1, l2, some (.int a), l4, l5], st, w, k, n) = WP (MX3_digest g) Q (311, [l0, l1, nl l2, some (.int (a + 1)), l4, l5], st, w, k, n) := Eq.trans (iinc_e (M := (MX3_digest g)) (L := [l0, l1, l2, some (.int a), l4, l5]) (d := 1) rfl dX3_digest_308 (by decide) rfl) rfl
theorem eX3_digest_311 : WP (MX3_digest g) Q (311, [l0, l1, l2, l3, l4, l5], st, w, k, n) = WP (MX3_digest g) Q (97, [l0, l1, l2, l3, l4, l5], st, w, k, n) := goto_e rfl dX3_digest_311 (by decide)
theorem eX3_digest_314 : WP (MX3_digest g) Q (314, [l0, l1, l2, l3, l4, l5], st, w, k, n) = WP (MX3_digest g) Q (315, [l0, l1, l2, l3, l4, l5], .int 0 :: st, w, k, n) := iconst_e rfl dX3_digest_314 (by decide)
theorem eX3_digest_315 : WP (MX3_digest g) Q (315, [l0, l1, l2, l3, l4, l5], .int a :: st, w, k, n) = WP (MX3_digest g) Q (316, [l0, l1, nl l2, some (.int a), l4, l5], st, w, k, n) := by rw [WP_at (M := (MX3_digest g)) rfl dX3_digest_315 (Or.inr rfl)]; exact and_t (Nat.le_of_ble_eq_true rfl)
theorem eX3_digest_316 : WP (MX3_digest g) Q (316, [l0, l1, l2, some (.int a), l4, l5], st, w, k, n) = WP (MX3_digest g) Q (317, [l0, l1, l2, some (.int a), l4, l5], .int a :: st, w, k, n) := Eq.trans (WP_at (M := (MX3_digest g)) rfl dX3_digest_316 (Or.inr rfl)) rfl
theorem eX3_digest_317 : WP (MX3_digest g) Q (317, [l0, l1, l2, l3, l4, l5], st, w, k, n) = WP (MX3_digest g) Q (318, [l0, l1, l2, l3, l4, l5], .int 2 :: st, w, k, n) := iconst_e rfl dX3_digest_317 (by decide)
theorem eX3_digest_318 : WP (MX3_digest g) Q (318, [l0, l1, l2, l3, l4, l5], .int b :: .int a :: st, w, k, n) = if b < a then WP (MX3_digest g) Q (338, [l0, l1, l2, l3, l4, l5], st, w, k, n) else WP (MX3_digest g) Q (321, [l0, l1, l2, l3, l4, l5], st, w, k, n) := icm_e (b < a) rfl dX3_digest_318 rfl (by decide)
theorem eX3_digest_321 : WP (MX3_digest g) Q (321, [l0, some (.long x), l2, l3, l4, l5], st, w, k, n) = WP (MX3_digest g) Q (322, [l0, some (.long x), l2, l3, l4, l5], .long x :: st, w, k, n) := Eq.trans (WP_at (M := (MX3_digest g)) rfl dX3_digest_321 (Or.inr rfl)) rfl
theorem eX3_digest_322 : WP (MX3_digest g) Q (322, [some (.ref p), l1, l2, l3, l4, l5], st, w, k, n) = WP (MX3_digest g) Q (323, [some (.ref p), l1, l2, l3, l4, l5], .ref p :: st, w, k, n) := Eq.trans (WP_at (M := (MX3_digest g)) rfl dX3_digest_322 (Or.inr rfl)) rfl
theorem eX3_digest_322N : WP (MX3_digest g) Q (322, [some .null, l1, l2, l3, l4, l5], st, w, k, n) = WP (MX3_digest g) Q (323, [some .null, l1, l2, l3, l4, l5], .null :: st, w, k, n) := Eq.trans (WP_at (M := (MX3_digest g)) rfl dX3_digest_322 (Or.inr rfl)) rfl
theorem eX3_digest_323 : WP (MX3_digest g) Q (323, [l0, l1, l2, some (.int a), l4, l5], st, w, k, n) = WP (MX3_digest g) Q (324, [l0, l1, l2, some (.int a), l4, l5], .int a :: st, w, k, n) := Eq.trans (WP_at (M := (MX3_digest g)) rfl dX3_digest_323 (Or.inr rfl)) rfl
theorem eX3_digest_324 {z0 : Int32} : WP (MX3_digest g) Q (324, [l0, l1, l2, l3, l4, l5], .int z0 :: .ref p :: st, w, k, n) = (go (rd g w p) 7 (fun _ => True) ∧ wt st ≤ 8 ∧ k + 0 ≤ 90 ∧ n + 0 ≤ 520 ∧ WP (MX3_whichNow_ g) (kx (fun v w' => WP (MX3_digest g) Q (327, [l0, l1, l2, l3, l4, l5], v.toList ++ st, w', k + 0, n + 0)) (fun E w' => Q (.inr E) w')) (0, [some (.ref p), some (.int z0), none, none], [], w, 0, 0)) := csV (M := (MX3_digest g)) (mc := (fun _ _ => 0)) (ms := (fun _ _ => 0)) (As := [.int z0]) (rest := st) (MX3_whichNow_ g) rfl rfl dX3_digest_324 (by exact fun h => nomatch (show (none : Option Nat) = some 11 from h)) (by exact fun h => nomatch (show (none : Option Nat) = some 15 from h)) rfl rfl (by decide) (Nat.le_of_ble_eq_true rfl) (Nat.le_of_ble_eq_true rfl) rfl
theorem eX3_digest_327 : WP (MX3_digest g) Q (327, [l0, l1, l2, l3, l4, l5], .int a :: st, w, k, n) = WP (MX3_digest g) Q (328, [l0, l1, l2, l3, l4, l5], .long a.toInt64 :: st, w, k, n) := Eq.trans (WP_at (M := (MX3_digest g)) rfl dX3_digest_327 (Or.inr rfl)) rfl
theorem eX3_digest_328 {z0 : Int64} {z1 : Int64} : WP (MX3_digest g) Q (328, [l0, l1, l2, l3, l4, l5], .long z1 :: .long z0 :: st, w, k, n) = (wt st ≤ 8 ∧ k + 0 ≤ 90 ∧ n + 0 ≤ 520 ∧ WP (MX3_add g) (kx (fun v w' => WP (MX3_digest g) Q (331, [l0, l1, l2, l3, l4, l5], v.toList ++ st, w', k + 0, n + 0)) (fun E w' => Q (.inr E) w')) (0, [some (.long z0), none, some (.long z1), none], [], w, 0, 0)) := csS (M := (MX3_digest g)) (mc := (fun _ _ => 0)) (ms := (fun _ _ => 0)) (As := [.long z0, .long z1]) (rest := st) (MX3_add g) rfl rfl dX3_digest_328 (Nat.ne_of_beq_eq_false rfl) (by exact fun h => nomatch (show (none : Option Nat) = some 12 from h)) (by exact fun h => nomatch (show (none : Option Nat) = some 13 from h)) (by exact fun h => nomatch (show (none : Option Nat) = some 14 from h)) rfl rfl (by decide) (Nat.le_of_ble_eq_true rfl) (Nat.le_of_ble_eq_true rfl) rfl
theorem eX3_digest_331 : WP (MX3_digest g) Q (331, [l0, l1, l2, l3, l4, l5], .long x :: st, w, k, n) = WP (MX3_digest g) Q (332, [nl l0, some (.long x), none, l3, l4, l5], st, w, k, n) := by rw [WP_at (M := (MX3_digest g)) rfl dX3_digest_331 (Or.inr rfl)]; exact and_t (Nat.le_of_ble_eq_true rfl)
theorem eX3_digest_332 : WP (MX3_digest g) Q (332, [l0, l1, l2, some (.int a), l4, l5], st, w, k, n) = WP (MX3_digest g) Q (335, [l0, l1, nl l2, some (.int (a + 1)), l4, l5], st, w, k, n) := Eq.trans (iinc_e (M := (MX3_digest g)) (L := [l0, l1, l2, some (.int a), l4, l5]) (d := 1) rfl dX3_digest_332 (by decide) rfl) rfl
theorem eX3_digest_335 : WP (MX3_digest g) Q (335, [l0, l1, l2, l3, l4, l5], st, w, k, n) = WP (MX3_digest g) Q (316, [l0, l1, l2, l3, l4, l5], st, w, k, n) := goto_e rfl dX3_digest_335 (by decide)
theorem eX3_digest_338 : WP (MX3_digest g) Q (338, [l0, l1, l2, l3, l4, l5], st, w, k, n) = WP (MX3_digest g) Q (339, [l0, l1, l2, l3, l4, l5], .int 0 :: st, w, k, n) := iconst_e rfl dX3_digest_338 (by decide)
theorem eX3_digest_339 : WP (MX3_digest g) Q (339, [l0, l1, l2, l3, l4, l5], .int a :: st, w, k, n) = WP (MX3_digest g) Q (340, [l0, l1, nl l2, some (.int a), l4, l5], st, w, k, n) := by rw [WP_at (M := (MX3_digest g)) rfl dX3_digest_339 (Or.inr rfl)]; exact and_t (Nat.le_of_ble_eq_true rfl)
theorem eX3_digest_340 : WP (MX3_digest g) Q (340, [l0, l1, l2, some (.int a), l4, l5], st, w, k, n) = WP (MX3_digest g) Q (341, [l0, l1, l2, some (.int a), l4, l5], .int a :: st, w, k, n) := Eq.trans (WP_at (M := (MX3_digest g)) rfl dX3_digest_340 (Or.inr rfl)) rfl
theorem eX3_digest_341 : WP (MX3_digest g) Q (341, [l0, l1, l2, l3, l4, l5], st, w, k, n) = WP (MX3_digest g) Q (342, [l0, l1, l2, l3, l4, l5], .int 5 :: st, w, k, n) := iconst_e rfl dX3_digest_341 (by decide)
theorem eX3_digest_342 : WP (MX3_digest g) Q (342, [l0, l1, l2, l3, l4, l5], .int b :: .int a :: st, w, k, n) = if b < a then WP (MX3_digest g) Q (363, [l0, l1, l2, l3, l4, l5], st, w, k, n) else WP (MX3_digest g) Q (345, [l0, l1, l2, l3, l4, l5], st, w, k, n) := icm_e (b < a) rfl dX3_digest_342 rfl (by decide)
theorem eX3_digest_345 : WP (MX3_digest g) Q (345, [l0, some (.long x), l2, l3, l4, l5], st, w, k, n) = WP (MX3_digest g) Q (346, [l0, some (.long x), l2, l3, l4, l5], .long x :: st, w, k, n) := Eq.trans (WP_at (M := (MX3_digest g)) rfl dX3_digest_345 (Or.inr rfl)) rfl
theorem eX3_digest_346 : WP (MX3_digest g) Q (346, [some (.ref p), l1, l2, l3, l4, l5], st, w, k, n) = WP (MX3_digest g) Q (347, [some (.ref p), l1, l2, l3, l4, l5], .ref p :: st, w, k, n) := Eq.trans (WP_at (M := (MX3_digest g)) rfl dX3_digest_346 (Or.inr rfl)) rfl
theorem eX3_digest_346N : WP (MX3_digest g) Q (346, [some .null, l1, l2, l3, l4, l5], st, w, k, n) = WP (MX3_digest g) Q (347, [some .null, l1, l2, l3, l4, l5], .null :: st, w, k, n) := Eq.trans (WP_at (M := (MX3_digest g)) rfl dX3_digest_346 (Or.inr rfl)) rfl
theorem eX3_digest_347 : WP (MX3_digest g) Q (347, [l0, l1, l2, l3, l4, l5], st, w, k, n) = WP (MX3_digest g) Q (348, [l0, l1, l2, l3, l4, l5], .int 0 :: st, w, k, n) := iconst_e rfl dX3_digest_347 (by decide)
theorem eX3_digest_348 : WP (MX3_digest g) Q (348, [l0, l1, l2, some (.int a), l4, l5], st, w, k, n) = WP (MX3_digest g) Q (349, [l0, l1, l2, some (.int a), l4, l5], .int a :: st, w, k, n) := Eq.trans (WP_at (M := (MX3_digest g)) rfl dX3_digest_348 (Or.inr rfl)) rfl
theorem eX3_digest_349 {z0 : Int32} {z1 : Int32} : WP (MX3_digest g) Q (349, [l0, l1, l2, l3, l4, l5], .int z1 :: .int z0 :: .ref p :: st, w, k, n) = (go (rd g w p) 7 (fun _ => True) ∧ wt st ≤ 8 ∧ k + 12 ≤ 90 ∧ n + 72 ≤ 520 ∧ WP (MX3_pileNow g) (kx (fun v w' => WP (MX3_digest g) Q (352, [l0, l1, l2, l3, l4, l5], v.toList ++ st, w', k + 12, n + 72)) (fun E w' => Q (.inr E) w')) (0, [some (.ref p), some (.int z0), some (.int z1), none, none, none, none], [], w, 0, 0)) := csV (M := (MX3_digest g)) (mc := (fun _ _ => 12)) (ms := (fun _ _ => 72)) (As := [.int z0, .int z1]) (rest := st) (MX3_pileNow g) rfl rfl dX3_digest_349 (by exact fun h => nomatch (show (none : Option Nat) = some 11 from h)) (by exact fun h => nomatch (show (none : Option Nat) = some 15 from h)) rfl rfl (by decide) (Nat.le_of_ble_eq_true rfl) (Nat.le_of_ble_eq_true rfl) rfl
theorem eX3_digest_352 : WP (MX3_digest g) Q (352, [l0, l1, l2, l3, l4, l5], .int a :: st, w, k, n) = WP (MX3_digest g) Q (353, [l0, l1, l2, l3, l4, l5], .long a.toInt64 :: st, w, k, n) := Eq.trans (WP_at (M := (MX3_digest g)) rfl dX3_digest_352 (Or.inr rfl)) rfl
theorem eX3_digest_353 {z0 : Int64} {z1 : Int64} : WP (MX3_digest g) Q (353, [l0, l1, l2, l3, l4, l5], .long z1 :: .long z0 :: st, w, k, n) = (wt st ≤ 8 ∧ k + 0 ≤ 90 ∧ n + 0 ≤ 520 ∧ WP (MX3_add g) (kx (fun v w' => WP (MX3_digest g) Q (356, [l0, l1, l2, l3, l4, l5], v.toList ++ st, w', k + 0, n + 0)) (fun E w' => Q (.inr E) w')) (0, [some (.long z0), none, some (.long z1), none], [], w, 0, 0)) := csS (M := (MX3_digest g)) (mc := (fun _ _ => 0)) (ms := (fun _ _ => 0)) (As := [.long z0, .long z1]) (rest := st) (MX3_add g) rfl rfl dX3_digest_353 (Nat.ne_of_beq_eq_false rfl) (by exact fun h => nomatch (show (none : Option Nat) = some 12 from h)) (by exact fun h => nomatch (show (none : Option Nat) = some 13 from h)) (by exact fun h => nomatch (show (none : Option Nat) = some 14 from h)) rfl rfl (by decide) (Nat.le_of_ble_eq_true rfl) (Nat.le_of_ble_eq_true rfl) rfl
theorem eX3_digest_356 : WP (MX3_digest g) Q (356, [l0, l1, l2, l3, l4, l5], .long x :: st, w, k, n) = WP (MX3_digest g) Q (357, [nl l0, some (.long x), none, l3, l4, l5], st, w, k, n) := by rw [WP_at (M := (MX3_digest g)) rfl dX3_digest_356 (Or.inr rfl)]; exact and_t (Nat.le_of_ble_eq_true rfl)
theorem eX3_digest_357 : WP (MX3_digest g) Q (357, [l0, l1, l2, some (.int a), l4, l5], st, w, k, n) = WP (MX3_digest g) Q (360, [l0, l1, nl l2, some (.int (a + 1)), l4, l5], st, w, k, n) := Eq.trans (iinc_e (M := (MX3_digest g)) (L := [l0, l1, l2, some (.int a), l4, l5]) (d := 1) rfl dX3_digest_357 (by decide) rfl) rfl
theorem eX3_digest_360 : WP (MX3_digest g) Q (360, [l0, l1, l2, l3, l4, l5], st, w, k, n) = WP (MX3_digest g) Q (340, [l0, l1, l2, l3, l4, l5], st, w, k, n) := goto_e rfl dX3_digest_360 (by decide)
theorem eX3_digest_363 : WP (MX3_digest g) Q (363, [l0, some (.long x), l2, l3, l4, l5], st, w, k, n) = WP (MX3_digest g) Q (364, [l0, some (.long x), l2, l3, l4, l5], .long x :: st, w, k, n) := Eq.trans (WP_at (M := (MX3_digest g)) rfl dX3_digest_363 (Or.inr rfl)) rfl
theorem eX3_digest_364 : WP (MX3_digest g) Q (364, [l0, l1, l2, l3, l4, l5], st, w, k, n) = WP (MX3_digest g) Q (365, [l0, l1, l2, l3, l4, l5], .long 1 :: st, w, k, n) := lconst_e rfl dX3_digest_364 (by decide)
theorem eX3_digest_365 {z0 : Int64} {z1 : Int64} : WP (MX3_digest g) Q (365, [l0, l1, l2, l3, l4, l5], .long z1 :: .long z0 :: st, w, k, n) = (wt st ≤ 8 ∧ k + 0 ≤ 90 ∧ n + 0 ≤ 520 ∧ WP (MX3_add g) (kx (fun v w' => WP (MX3_digest g) Q (368, [l0, l1, l2, l3, l4, l5], v.toList ++ st, w', k + 0, n + 0)) (fun E w' => Q (.inr E) w')) (0, [some (.long z0), none, some (.long z1), none], [], w, 0, 0)) := csS (M := (MX3_digest g)) (mc := (fun _ _ => 0)) (ms := (fun _ _ => 0)) (As := [.long z0, .long z1]) (rest := st) (MX3_add g) rfl rfl dX3_digest_365 (Nat.ne_of_beq_eq_false rfl) (by exact fun h => nomatch (show (none : Option Nat) = some 12 from h)) (by exact fun h => nomatch (show (none : Option Nat) = some 13 from h)) (by exact fun h => nomatch (show (none : Option Nat) = some 14 from h)) rfl rfl (by decide) (Nat.le_of_ble_eq_true rfl) (Nat.le_of_ble_eq_true rfl) rfl
theorem eX3_digest_368 : WP (MX3_digest g) Q (368, [l0, l1, l2, l3, l4, l5], [.long x], w, k, n) = (k ≤ 90 ∧ n ≤ 520 ∧ Q (.inl (some (.long x))) w) := lret_e rfl dX3_digest_368 rfl
end
theorem wk_1666 : (.constantLong RX3 218 (7783) : Jvm.Cond) ∈ WS := WS_t7 168 rfl rfl
theorem wk_1669 : (.code yX3_add cX3_add 4 (some .long) : Jvm.Cond) ∈ WS := WS_t7 171 rfl rfl
theorem wk_1667 : (.methodLink RX3 220 yX3_add : Jvm.Cond) ∈ WS := WS_t7 169 rfl rfl
theorem wk_1668 : (.static yX3_add : Jvm.Cond) ∈ WS := WS_t7 170 rfl rfl
theorem vMX3_digest {l : Launch} (hl : l.stackTraces = false) (G : GT) : vM l G (MX3_digest (gg G)) := ⟨fun i c j h => lookup_all (l := (MX3_digest (gg G)).fld) (P := fun i e => vFld RX3 i e.1 e.2) (all_c (vF_RX3_27) (all_c (vF_RX3_9) (all_c (vF_RX3_16) (all_n)))) i (c, j) h, fun i c fs h => lookup_all (l := (MX3_digest (gg G)).new) (P := fun i e => vNew RX3 i e.1 e.2) (all_n) i (c, fs) h, lookup_all (l := (MX3_digest (gg G)).anew) (P := fun i e => vANew RX3 i e) (all_n), lookup_all (l := (MX3_digest (gg G)).lng) (P := fun i e => Jvm.Cond.constantLong RX3 i e ∈ WS) (all_c (wk_1666) (all_n)), lookup_all (l := (MX3_digest (gg G)).thr) (P := fun i e => vThr RX3 cX3_digest i e) (all_n), fun h => absurd rfl h, lookup_all (l := (MX3_digest (gg G)).cal) (P := fun i e => vCal l G RX3 i e) (all_c (⟨cX3_houseNow, 5, some .int, fun y hy => by subst hy; exact ⟨by decide, ⟨_, wk_1652, okX3_houseNow hl, Or.inl ⟨Nat.ne_of_beq_eq_false rfl, rfl⟩⟩, wk_60, ⟨(by decide : yX3_houseNow.cls ≠ "java/lang/invoke/MethodHandle"), (by decide : yX3_houseNow.cls ≠ "java/lang/invoke/VarHandle")⟩, ⟨(by decide +kernel : (parseMethodDescriptor yX3_houseNow.desc).map (fun d => d.parameters.length + 1) = some 2), wk_1649, wk_1651, wk_57, (RX3, TX3, 7), rfl, rfl⟩⟩⟩) (all_c (⟨cX3_add, 4, some .long, fun y hy => by subst hy; exact ⟨by decide, ⟨_, wk_1669, okX3_add hl, Or.inl ⟨Nat.ne_of_beq_eq_false rfl, rfl⟩⟩, wk_60, ⟨(by decide : yX3_add.cls ≠ "java/lang/invoke/MethodHandle"), (by decide : yX3_add.cls ≠ "java/lang/invoke/VarHandle")⟩, ⟨(by decide +kernel : (parseMethodDescriptor yX3_add.desc).map (fun d => d.parameters.length) = some 2), wk_1667, wk_1668⟩⟩⟩) (all_c (⟨cX3_high, 2, some .int, fun y hy => by subst hy; exact ⟨by decide, ⟨_, wk_1238, okX3_high hl, Or.inl ⟨Nat.ne_of_beq_eq_false rfl, rfl⟩⟩, wk_60, ⟨(by decide : yX3_high.cls ≠ "java/lang/invoke/MethodHandle"), (by decide : yX3_high.cls ≠ "java/lang/invoke/VarHandle")⟩, ⟨(by decide +kernel : (parseMethodDescriptor yX3_high.desc).map (fun d => d.parameters.length) = some 1), wk_1236, wk_1237⟩⟩⟩) (all_c (⟨cX3_low, 4, some .int, fun y hy => by subst hy; exact ⟨by decide, ⟨_, wk_1246, okX3_low hl, Or.inl ⟨Nat.ne_of_beq_eq_false rfl, rfl⟩⟩, wk_60, ⟨(by decide : yX3_low.cls ≠ "java/lang/invoke/MethodHandle"), (by decide : yX3_low.cls ≠ "java/lang/invoke/VarHandle")⟩, ⟨(by decide +kernel : (parseMethodDescriptor yX3_low.desc).map (fun d => d.parameters.length) = some 1), wk_1244, wk_1245⟩⟩⟩) (all_c (⟨cX3_whoNow, 5, some .int, fun y hy => by subst hy; exact ⟨by decide, ⟨_, wk_1491, okX3_whoNow hl, Or.inl ⟨Nat.ne_of_beq_eq_false rfl, rfl⟩⟩, wk_60, ⟨(by decide : yX3_whoNow.cls ≠ "java/lang/invoke/MethodHandle"), (by decide : yX3_whoNow.cls ≠ "java/lang/invoke/VarHandle")⟩, ⟨(by decide +kernel : (parseMethodDescriptor yX3_whoNow.desc).map (fun d => d.parameters.length + 1) = some 3), wk_1488, wk_1490, wk_47, (RX3, TX3, 7), rfl, rfl⟩⟩⟩) (all_c (⟨cX3_isBare, 2, some .boolean, fun y hy => by subst hy; exact ⟨by decide, ⟨_, wk_1375, okX3_isBare hl, Or.inl ⟨Nat.ne_of_beq_eq_false rfl, rfl⟩⟩, wk_60, ⟨(by decide : yX3_isBare.cls ≠ "java/lang/invoke/MethodHandle"), (by decide : yX3_isBare.cls ≠ "java/lang/invoke/VarHandle")⟩, ⟨(by decide +kernel : (parseMethodDescriptor yX3_isBare.desc).map (fun d => d.parameters.length + 1) = some 2), wk_1372, wk_1374, wk_43, (RX3, TX3, 7), rfl, rfl⟩⟩⟩) (all_c (⟨cX3_one, 1, some .int, fun y hy => by subst hy; exact ⟨by decide, ⟨_, wk_1313, okX3_one hl, Or.inl ⟨Nat.ne_of_beq_eq_false rfl, rfl⟩⟩, wk_60, ⟨(by decide : yX3_one.cls ≠ "java/lang/invoke/MethodHandle"), (by decide : yX3_one.cls ≠ "java/lang/invoke/VarHandle")⟩, ⟨(by decide +kernel : (parseMethodDescriptor yX3_one.desc).map (fun d => d.parameters.length) = some 1), wk_1311, wk_1312⟩⟩⟩) (all_c (⟨cJx4a65c_get_915e3, 2, some (.object "java/lang/Object"), fun y hy => by subst hy; exact ⟨by decide, ⟨_, wk_1379, okJx4a65c_get_915e3 hl, Or.inl ⟨Nat.ne_of_beq_eq_false rfl, rfl⟩⟩, wk_63, ⟨(by decide : yJx4a65c_get_915e3.cls ≠ "java/lang/invoke/MethodHandle"), (by decide : yJx4a65c_get_915e3.cls ≠ "java/lang/invoke/VarHandle")⟩, ⟨(by decide +kernel : (parseMethodDescriptor yJx4a65c_get_915e3.desc).map (fun d => d.parameters.length + 1) = some 2), wk_1376, wk_1377, wk_1378, (RJx4a65c, TJx4a65c, 3), rfl, rfl⟩⟩⟩) (all_c (⟨cX3_aroundNow, 5, some .int, fun y hy => by subst hy; exact ⟨by decide, ⟨_, wk_1479, okX3_aroundNow hl, Or.inl ⟨Nat.ne_of_beq_eq_false rfl, rfl⟩⟩, wk_60, ⟨(by decide : yX3_aroundNow.cls ≠ "java/lang/invoke/MethodHandle"), (by decide : yX3_aroundNow.cls ≠ "java/lang/invoke/VarHandle")⟩, ⟨(by decide +kernel : (parseMethodDescriptor yX3_aroundNow.desc).map (fun d => d.parameters.length) = some 3), wk_1477, wk_1478⟩⟩⟩) (all_c (⟨cX3_fixed, 1, some .boolean, fun y hy => by subst hy; exact ⟨by decide, ⟨_, wk_1394, okX3_fixed hl, Or.inl ⟨Nat.ne_of_beq_eq_false rfl, rfl⟩⟩, wk_60, ⟨(by decide : yX3_fixed.cls ≠ "java/lang/invoke/MethodHandle"), (by decide : yX3_fixed.cls ≠ "java/lang/invoke/VarHandle")⟩, ⟨(by decide +kernel : (parseMethodDescriptor yX3_fixed.desc).map (fun d => d.parameters.length) = some 1), wk_1392, wk_1393⟩⟩⟩) (all_c (⟨cX3_small, 1, some .boolean, fun y hy => by subst hy; exact ⟨by decide, ⟨_, wk_1429, okX3_small hl, Or.inl ⟨Nat.ne_of_beq_eq_false rfl, rfl⟩⟩, wk_60, ⟨(by decide : yX3_small.cls ≠ "java/lang/invoke/MethodHandle"), (by decide : yX3_small.cls ≠ "java/lang/invoke/VarHandle")⟩, ⟨(by decide +kernel : (parseMethodDescriptor yX3_small.desc).map (fun d => d.parameters.length) = some 1), wk_1427, wk_1428⟩⟩⟩) (all_c (⟨cX3_likesNow, 4, some .int, fun y hy => by subst hy; exact ⟨by decide, ⟨_, wk_1515, okX3_likesNow hl, Or.inl ⟨Nat.ne_of_beq_eq_false rfl, rfl⟩⟩, wk_60, ⟨(by decide : yX3_likesNow.cls ≠ "java/lang/invoke/MethodHandle"), (by decide : yX3_likesNow.cls ≠ "java/lang/invoke/VarHandle")⟩, ⟨(by decide +kernel : (parseMethodDescriptor yX3_likesNow.desc).map (fun d => d.parameters.length + 1) = some 2), wk_1512, wk_1514, wk_49, (RX3, TX3, 7), rfl, rfl⟩⟩⟩) (all_c (⟨cX3_seekNow, 5, some .int, fun y hy => by subst hy; exact ⟨by decide, ⟨_, wk_1531, okX3_seekNow hl, Or.inl ⟨Nat.ne_of_beq_eq_false rfl, rfl⟩⟩, wk_60, ⟨(by decide : yX3_seekNow.cls ≠ "java/lang/invoke/MethodHandle"), (by decide : yX3_seekNow.cls ≠ "java/lang/invoke/VarHandle")⟩, ⟨(by decide +kernel : (parseMethodDescriptor yX3_seekNow.desc).map (fun d => d.parameters.length + 1) = some 3), wk_1528, wk_1530, wk_50, (RX3, TX3, 7), rfl, rfl⟩⟩⟩) (all_c (⟨cX3_oftenNow, 5, some .int, fun y hy => by subst hy; exact ⟨by decide, ⟨_, wk_1539, okX3_oftenNow hl, Or.inl ⟨Nat.ne_of_beq_eq_false rfl, rfl⟩⟩, wk_60, ⟨(by decide : yX3_oftenNow.cls ≠ "java/lang/invoke/MethodHandle"), (by decide : yX3_oftenNow.cls ≠ "java/lang/invoke/VarHandle")⟩, ⟨(by decide +kernel : (parseMethodDescriptor yX3_oftenNow.desc).map (fun d => d.parameters.length + 1) = some 2), wk_1536, wk_1538, wk_51, (RX3, TX3, 7), rfl, rfl⟩⟩⟩) (all_c (⟨cX3_whichNow, 2, some .int, fun y hy => by subst hy; exact ⟨by decide, ⟨_, wk_1472, okX3_whichNow hl, Or.inl ⟨Nat.ne_of_beq_eq_false rfl, rfl⟩⟩, wk_60, ⟨(by decide : yX3_whichNow.cls ≠ "java/lang/invoke/MethodHandle"), (by decide : yX3_whichNow.cls ≠ "java/lang/invoke/VarHandle")⟩, ⟨(by decide +kernel : (parseMethodDescriptor yX3_whichNow.desc).map (fun d => d.parameters.length) = some 2), wk_1470, wk_1471⟩⟩⟩) (all_c (⟨cX3_whichNow_, 4, some .int, fun y hy => by subst hy; exact ⟨by decide, ⟨_, wk_1499, okX3_whichNow_ hl, Or.inl ⟨Nat.ne_of_beq_eq_false rfl, rfl⟩⟩, wk_60, ⟨(by decide : yX3_whichNow_.cls ≠ "java/lang/invoke/MethodHandle"), (by decide : yX3_whichNow_.cls ≠ "java/lang/invoke/VarHandle")⟩, ⟨(by decide +kernel : (parseMethodDescriptor yX3_whichNow_.desc).map (fun d => d.parameters.length + 1) = some 2), wk_1496, wk_1498, wk_48, (RX3, TX3, 7), rfl, rfl⟩⟩⟩) (all_c (⟨cX3_pileNow, 7, some .int, fun y hy => by subst hy; exact ⟨by decide, ⟨_, wk_1639, okX3_pileNow hl, Or.inl ⟨Nat.ne_of_beq_eq_false rfl, rfl⟩⟩, wk_60, ⟨(by decide : yX3_pileNow.cls ≠ "java/lang/invoke/MethodHandle"), (by decide : yX3_pileNow.cls ≠ "java/lang/invoke/VarHandle")⟩, ⟨(by decide +kernel : (parseMethodDescriptor yX3_pileNow.desc).map (fun d => d.parameters.length + 1) = some 3), wk_1636, wk_1638, wk_55, (RX3, TX3, 7), rfl, rfl⟩⟩⟩) (all_n)))))))))))))))))), lookup_all (l := (MX3_digest (gg G)).stt) (P := fun i e => vStt G RX3 i e) (all_n), lookup_all (l := (MX3_digest (gg G)).cst) (P := fun i e => vCst RX3 i e) (all_c (⟨.long, rfl, (fun C h => by cases h), wk_1380⟩) (all_n)), fun h => absurd rfl h, rfl, all_n⟩
theorem okX3_digest {l : Launch} (hl : l.stackTraces = false) {G : GT} : ∀ (args : List Value) (w : Hw) (S : Ot → Hw → Prop), spOf (MX3_digest (gg G)) args w S → CX l G yX3_digest (.code yX3_digest cX3_digest 6 (some .long)) 6 90 520 args w S := CX_sp (M := MX3_digest (gg G)) (y := yX3_digest) hl (by decide) rfl (vMX3_digest hl G) (fun h => by cases h) rfl
end
/-! 60.text0.lean.txt -/
section
section
variable {g : RO} {Q : Ot → Hw → Prop} {w0 w : Hw}
/-! bytes -/
def bOK (N : Nat) (f : Nat → Int32) : Prop := ∀ j, j < N → fits .byte (.int (f j)) = true
theorem i8_rng (v : Int32) : fits .byte (.int v.toInt8.toInt32) = true := by
  have h1 := Int8.le_toInt v.toInt8
  have h2 := Int8.toInt_lt v.toInt8
  have e0 := Int8.toInt_toInt32 v.toInt8
  have a : (-128 : Int32) ≤ v.toInt8.toInt32 := Int32.le_iff_toInt_le.mpr (by have e : (-128 : Int32).toInt = -128 := by decide
                                                                              omega)
  have b : v.toInt8.toInt32 ≤ (127 : Int32) := Int32.le_iff_toInt_le.mpr (by have e : (127 : Int32).toInt = 127 := rfl
                                                                             omega)
  simp only [fits, Bool.and_eq_true, decide_eq_true_eq]
  exact ⟨a, b⟩
theorem bOK_up {N : Nat} {f : Nat → Int32} (h : bOK N f) (j : Nat) (v : Int32) : bOK N (upd f j (vp_nar .byte v)) := fun i hi => by
  unfold upd
  split
  · rw [vp_nar_byte]
    exact i8_rng v
  · exact h i hi
theorem bOK_0 (N : Nat) : bOK N (fun _ => 0) := fun _ _ => rfl
theorem bOK_cpy {N0 N1 sp dp n : Nat} {f0 f1 : Nat → Int32} (h0 : bOK N0 f0) (h1 : bOK N1 f1) (h : sp + n ≤ N0) : bOK N1 (va_cpy f0 f1 sp dp n) := fun i hi => by
  unfold va_cpy
  split
  · exact h0 _ (by omega)
  · exact h1 i hi
theorem upw2 {w : Hw} {a : Nat} {o o' : Ob} : upw (upw w a o) a o' = upw w a o' := by
  funext q
  unfold upw
  split <;> rfl
theorem vpiN {a : Int32} {N : Nat} (h0 : (0 : Int) ≤ a.toInt) (h1 : a.toInt < (N : Int)) : vp_in a N := by
  rintro (h | h)
  · have := i32_lt h
    have e : (0 : Int32).toInt = 0 := rfl
    omega
  · have e1 : a.toNatClampNeg = a.toInt.toNat := rfl
    omega
theorem i32_neg {a : Int32} (h : ¬ a < 0) : (-a).toInt = -a.toInt := by
  have h1 := i32_0 h
  have h2 := i32_bd a
  rw [Int32.toInt_neg]
  exact Int.bmod_eq_of_le (by omega) (by omega)
theorem nn {a : Int32} : - -a = a := Int32.neg_neg
/-- where the digits lie; that a text is of bytes -/
def DG (g : RO) (w : Hw) : Prop := g.1 1 = .int 1 ∧ (∃ (a : Nat) (f : Nat → Int32), g.1 2 = .ref a ∧ g.2 a = some (.inl (2, 100, .inl f)) ∧ w a = none) ∧ ∃ (a : Nat) (f : Nat → Int32), g.1 3 = .ref a ∧ g.2 a = some (.inl (2, 100, .inl f)) ∧ w a = none
theorem rd_r {g : RO} {w : Hw} {a : Nat} {o : Ob} (h : g.2 a = some o) (k : w a = none) : rd g w a = some o := by
  unfold rd; rw [k]; exact h
theorem DG.ext {g : RO} {w w' : Hw} (h : DG g w) (k : ext g w w') : DG g w' := by
  obtain ⟨h1, ⟨a, f, h2, h3, h4⟩, ⟨b, f', h5, h6, h7⟩⟩ := h
  exact ⟨h1, ⟨a, f, h2, h3, k.2 a _ h3 h4⟩, ⟨b, f', h5, h6, k.2 b _ h6 h7⟩⟩
theorem ss1 {a : Int32} (k0 : ¬ a < 0) (k1 : a < 10) : (-10 < -a) = True := eq_true (i32_of_lt (by
  rw [i32_neg k0]
  have e : (-10 : Int32).toInt = -10 := by decide
  have e2 : (10 : Int32).toInt = 10 := rfl
  have := i32_lt k1
  omega))
theorem ss2 {a : Int32} (k0 : ¬ a < 0) (k1 : a < 10) : (-100 < -a) = True := eq_true (i32_of_lt (by
  rw [i32_neg k0]
  have e : (-100 : Int32).toInt = -100 := by decide
  have e2 : (10 : Int32).toInt = 10 := rfl
  have := i32_lt k1
  omega))
theorem ss3 {a : Int32} (k0 : ¬ a < 0) (k1 : a < 10) : (-a < -9) = False := eq_false (i32_of_nlt (by
  rw [i32_neg k0]
  have e : (-9 : Int32).toInt = -9 := by decide
  have e2 : (10 : Int32).toInt = 10 := rfl
  have := i32_lt k1
  omega))
theorem s10 : ((1 : Int32) < 10) = True := eq_true (by decide)
theorem a10 : (1 : Int32) + 0 = 1 := rfl
set_option maxHeartbeats 4000000 in
theorem sJ6_stringSize_0f7a4 {a : Int32} (k0 : ¬ a < 0) (k1 : a < 10) (hQ : Q (.inl (some (.int 1))) w) : WP (MJ6_stringSize_0f7a4 g) Q (0, [some (.int a), none, none, none], [], w, 0, 0) := by
  have e0 : (a < 0) = False := eq_false k0
  repeat' first
    | with_reducible assumption
    | with_reducible refine And.intro ?_ ?_
    | with_reducible exact vpi6 (by assumption) (by assumption)
    | with_reducible exact vpi8 (by assumption) (by assumption)
    | with_reducible rw [eJ6_stringSize_0f7a4_16]
    | simp only [eJ6_stringSize_0f7a4_0, eJ6_stringSize_0f7a4_1, eJ6_stringSize_0f7a4_2, eJ6_stringSize_0f7a4_3, eJ6_stringSize_0f7a4_6, eJ6_stringSize_0f7a4_7, eJ6_stringSize_0f7a4_8, eJ6_stringSize_0f7a4_9, eJ6_stringSize_0f7a4_10, eJ6_stringSize_0f7a4_11, eJ6_stringSize_0f7a4_13, eJ6_stringSize_0f7a4_14, eJ6_stringSize_0f7a4_15, eJ6_stringSize_0f7a4_17, eJ6_stringSize_0f7a4_19, eJ6_stringSize_0f7a4_22, eJ6_stringSize_0f7a4_23, eJ6_stringSize_0f7a4_24, eJ6_stringSize_0f7a4_27, eJ6_stringSize_0f7a4_28, eJ6_stringSize_0f7a4_29, eJ6_stringSize_0f7a4_30, eJ6_stringSize_0f7a4_31, eJ6_stringSize_0f7a4_33, eJ6_stringSize_0f7a4_34, eJ6_stringSize_0f7a4_35, eJ6_stringSize_0f7a4_36, eJ6_stringSize_0f7a4_39, eJ6_stringSize_0f7a4_42, eJ6_stringSize_0f7a4_44, eJ6_stringSize_0f7a4_45, eJ6_stringSize_0f7a4_46, e0, ss1 k0 k1, s10, a10, if_true, if_false, ite_le, n45, n54, true_or, or_true, false_or, or_false, false_and, and_false, kx_l, kx_r, go_s, gl_s, gi_s, gb_s2, gb_s3, gq_s, wt_nil, wt_int, wt_long, wt_ref, wt_null, nl_int, nl_long, nl_ref, nl_null, nl_none, rf_n, rf_s, rf_st, tl_s, tl_n, g0, gS, ex1, nb_b, nb_0, nb_1, nf_i, nf_l, nf_ra, nf_ro, nf_na, nf_no, nf_b0, nf_z0, t45_4, t45_5, true_and, and_true, List.set_cons_zero, List.set_cons_succ, List.length_cons, List.length_nil, rd_s, upw_s, ne_eq, not_false_eq_true, Nat.zero_add, Nat.add_zero]
    | split
    | with_reducible intro _
    | omega
set_option maxHeartbeats 4000000 in
theorem sJ6_getChars_ba4f3 {a i : Int32} {d N : Nat} {f : Nat → Int32} (hd : w d = some (.inl (2, N, .inl f))) (hf : bOK N f) (hD : DG g w) (k0 : ¬ a < 0) (k1 : a < 10) (i0 : 0 < i.toInt) (i1 : i.toInt ≤ (N : Int)) (hQ : ∀ (f' : Nat → Int32) (v : Int32), bOK N f' → Q (.inl (some (.int v))) (upw w d (.inl (2, N, .inl f')))) : WP (MJ6_getChars_ba4f3 g) Q (0, [some (.int a), some (.int i), some (.ref d), none, none, none, none], [], w, 0, 0) := by
  have e0 : (a < 0) = False := eq_false k0
  obtain ⟨hc, ⟨a1, f1, g1, g2, g3⟩, ⟨a2, f2, g4, g5, g6⟩⟩ := hD
  have r1 := rd_r g2 g3
  have r2 := rd_r g5 g6
  have rdd := rd_e (g := g) hd
  have iv : vp_in (i + -1) N := by
    have bi := i32_bd i
    have e : (-1 : Int32).toInt = -1 := by decide
    have s : (i + -1).toInt = i.toInt - 1 := by
      rw [i32_add (by omega) (by omega), e]
      omega
    exact vpiN (by omega) (by omega)
  have av : vp_in a 100 := vpi k0 (Int32.lt_of_lt_of_le k1 (by decide) : a < 100) (by decide)
  repeat' first
    | with_reducible assumption
    | with_reducible refine And.intro ?_ ?_
    | with_reducible exact vpi6 (by assumption) (by assumption)
    | with_reducible exact vpi8 (by assumption) (by assumption)
    | with_reducible exact iv
    | with_reducible exact av
    | with_reducible exact hQ _ _ (bOK_up hf _ _)
    | with_reducible rw [eJ6_getChars_ba4f3_22]
    | simp only [eJ6_getChars_ba4f3_0, eJ6_getChars_ba4f3_1, eJ6_getChars_ba4f3_3, eJ6_getChars_ba4f3_4, eJ6_getChars_ba4f3_7, eJ6_getChars_ba4f3_8, eJ6_getChars_ba4f3_11, eJ6_getChars_ba4f3_12, eJ6_getChars_ba4f3_14, eJ6_getChars_ba4f3_16, eJ6_getChars_ba4f3_19, eJ6_getChars_ba4f3_20, eJ6_getChars_ba4f3_21, eJ6_getChars_ba4f3_23, eJ6_getChars_ba4f3_25, eJ6_getChars_ba4f3_28, eJ6_getChars_ba4f3_29, eJ6_getChars_ba4f3_31, eJ6_getChars_ba4f3_32, eJ6_getChars_ba4f3_33, eJ6_getChars_ba4f3_34, eJ6_getChars_ba4f3_36, eJ6_getChars_ba4f3_37, eJ6_getChars_ba4f3_38, eJ6_getChars_ba4f3_39, eJ6_getChars_ba4f3_41, eJ6_getChars_ba4f3_42, eJ6_getChars_ba4f3_43, eJ6_getChars_ba4f3_43N, eJ6_getChars_ba4f3_44, eJ6_getChars_ba4f3_47, eJ6_getChars_ba4f3_49, eJ6_getChars_ba4f3_52, eJ6_getChars_ba4f3_54, eJ6_getChars_ba4f3_55, eJ6_getChars_ba4f3_56, eJ6_getChars_ba4f3_56N, eJ6_getChars_ba4f3_57, eJ6_getChars_ba4f3_60, eJ6_getChars_ba4f3_62, eJ6_getChars_ba4f3_65, eJ6_getChars_ba4f3_67, eJ6_getChars_ba4f3_68, eJ6_getChars_ba4f3_69, eJ6_getChars_ba4f3_72, eJ6_getChars_ba4f3_72N, eJ6_getChars_ba4f3_73, eJ6_getChars_ba4f3_76, eJ6_getChars_ba4f3_78, eJ6_getChars_ba4f3_81, eJ6_getChars_ba4f3_82, eJ6_getChars_ba4f3_83, eJ6_getChars_ba4f3_84, eJ6_getChars_ba4f3_85, eJ6_getChars_ba4f3_86, eJ6_getChars_ba4f3_88, eJ6_getChars_ba4f3_91, eJ6_getChars_ba4f3_91N, eJ6_getChars_ba4f3_92, eJ6_getChars_ba4f3_95, eJ6_getChars_ba4f3_97, eJ6_getChars_ba4f3_100, eJ6_getChars_ba4f3_101, eJ6_getChars_ba4f3_102, eJ6_getChars_ba4f3_103, eJ6_getChars_ba4f3_104, eJ6_getChars_ba4f3_106, eJ6_getChars_ba4f3_109, eJ6_getChars_ba4f3_109N, eJ6_getChars_ba4f3_110, eJ6_getChars_ba4f3_113, eJ6_getChars_ba4f3_115, eJ6_getChars_ba4f3_117, eJ6_getChars_ba4f3_118, eJ6_getChars_ba4f3_120, e0, ss2 k0 k1, ss3 k0 k1, nn, g1, g4, r1, r2, hd, rdd, bty_2, if_true, if_false, ite_le, n45, n54, true_or, or_true, false_or, or_false, false_and, and_false, kx_l, kx_r, go_s, gl_s, gi_s, gb_s2, gb_s3, gq_s, wt_nil, wt_int, wt_long, wt_ref, wt_null, nl_int, nl_long, nl_ref, nl_null, nl_none, rf_n, rf_s, rf_st, tl_s, tl_n, g0, gS, ex1, nb_b, nb_0, nb_1, nf_i, nf_l, nf_ra, nf_ro, nf_na, nf_no, nf_b0, nf_z0, t45_4, t45_5, true_and, and_true, List.set_cons_zero, List.set_cons_succ, List.length_cons, List.length_nil, rd_s, upw_s, ne_eq, not_false_eq_true, Nat.zero_add, Nat.add_zero]
    | split
    | with_reducible intro _
    | omega
end
end
/-! 60.text1.lean.txt -/
section
section
variable {g : RO} {Q : Ot → Hw → Prop} {w0 w : Hw}
theorem p10 (n : Nat) (h : n ≤ 18) : (1 : Int) ≤ (10 : Int) ^ n ∧ (10 : Int) ^ n ≤ 1000000000000000000 := by
  match n, h with
  | 0, _ => exact ⟨by decide, by decide⟩
  | 1, _ => exact ⟨by decide, by decide⟩
  | 2, _ => exact ⟨by decide, by decide⟩
  | 3, _ => exact ⟨by decide, by decide⟩
  | 4, _ => exact ⟨by decide, by decide⟩
  | 5, _ => exact ⟨by decide, by decide⟩
  | 6, _ => exact ⟨by decide, by decide⟩
  | 7, _ => exact ⟨by decide, by decide⟩
  | 8, _ => exact ⟨by decide, by decide⟩
  | 9, _ => exact ⟨by decide, by decide⟩
  | 10, _ => exact ⟨by decide, by decide⟩
  | 11, _ => exact ⟨by decide, by decide⟩
  | 12, _ => exact ⟨by decide, by decide⟩
  | 13, _ => exact ⟨by decide, by decide⟩
  | 14, _ => exact ⟨by decide, by decide⟩
  | 15, _ => exact ⟨by decide, by decide⟩
  | 16, _ => exact ⟨by decide, by decide⟩
  | 17, _ => exact ⟨by decide, by decide⟩
  | 18, _ => exact ⟨by decide, by decide⟩
  | n + 19, h => omega
theorem p10s (n : Nat) : (10 : Int) ^ (n + 1) = 10 * (10 : Int) ^ n := by rw [Int.pow_succ]; omega
theorem p10p (n : Nat) : (0 : Int) < (10 : Int) ^ n := by
  induction n with
  | zero => decide
  | succ n ih => rw [p10s]; omega
theorem i64_bd (a : Int64) : -9223372036854775808 ≤ a.toInt ∧ a.toInt ≤ 9223372036854775807 := by
  have h1 := Int64.le_toInt a
  have h2 := Int64.toInt_lt a
  omega
theorem i64_mul10 {p : Int64} {n : Nat} (h : p.toInt = -((10 : Int) ^ n)) (hn : n + 1 ≤ 18) : (10 * p).toInt = -((10 : Int) ^ (n + 1)) := by
  have h1 := p10 (n + 1) hn
  have e : (10 : Int64).toInt = 10 := rfl
  rw [Int64.toInt_mul, e, h]
  rw [p10s] at h1 ⊢
  rw [Int.bmod_eq_of_le (by omega) (by omega)]
  omega
theorem i64_neg {a : Int64} (h : ¬ a.toInt = -9223372036854775808) : (-a).toInt = -a.toInt := by
  have h2 := i64_bd a
  rw [Int64.toInt_neg]
  exact Int.bmod_eq_of_le (by omega) (by omega)
theorem i64_lt {a b : Int64} (h : a < b) : a.toInt < b.toInt := Int64.lt_iff_toInt_lt.mp h
theorem i64_nlt {a b : Int64} (h : ¬ a < b) : b.toInt ≤ a.toInt := Int64.le_iff_toInt_le.mp (Int64.not_lt.mp h)
theorem lt_f {a b : Int32} (h : b.toInt ≤ a.toInt) : (a < b) = False := eq_false (i32_of_nlt h)
theorem lt_t {a b : Int32} (h : a.toInt < b.toInt) : (a < b) = True := eq_true (i32_of_lt h)
set_option maxHeartbeats 4000000 in
theorem lJ13_ss {x : Int64} {dd : Int32} (hd0 : 0 ≤ dd.toInt) (hd1 : dd.toInt ≤ 1) (hQ : ∀ (v : Int32) (kk : Nat), 1 ≤ kk → kk ≤ 19 → v.toInt = kk + dd.toInt → -((10 : Int) ^ kk) < x.toInt → Q (.inl (some (.int v))) w) :
    ∀ (e : Nat) (p : Int64) (i : Int32), i.toInt + e = 19 → 1 ≤ i.toInt → (i.toInt < 19 → p.toInt = -((10 : Int) ^ i.toInt.toNat)) → WP (MJ13_stringSize_95d88 g) Q (20, [some (.long x), none, some (.int dd), some (.long p), none, some (.int i)], [], w, 0, 0) := by
  intro e
  induction e with
  | zero =>
    intro p i hi h1 hp
    have e19 : (19 : Int32).toInt = 19 := rfl
    rw [eJ13_stringSize_95d88_20]
    simp only [eJ13_stringSize_95d88_0, eJ13_stringSize_95d88_1, eJ13_stringSize_95d88_2, eJ13_stringSize_95d88_3, eJ13_stringSize_95d88_4, eJ13_stringSize_95d88_5, eJ13_stringSize_95d88_8, eJ13_stringSize_95d88_9, eJ13_stringSize_95d88_10, eJ13_stringSize_95d88_11, eJ13_stringSize_95d88_12, eJ13_stringSize_95d88_13, eJ13_stringSize_95d88_16, eJ13_stringSize_95d88_17, eJ13_stringSize_95d88_18, eJ13_stringSize_95d88_22, eJ13_stringSize_95d88_24, eJ13_stringSize_95d88_27, eJ13_stringSize_95d88_28, eJ13_stringSize_95d88_29, eJ13_stringSize_95d88_30, eJ13_stringSize_95d88_33, eJ13_stringSize_95d88_35, eJ13_stringSize_95d88_36, eJ13_stringSize_95d88_37, eJ13_stringSize_95d88_38, eJ13_stringSize_95d88_41, eJ13_stringSize_95d88_42, eJ13_stringSize_95d88_43, eJ13_stringSize_95d88_44, eJ13_stringSize_95d88_47, eJ13_stringSize_95d88_50, eJ13_stringSize_95d88_52, eJ13_stringSize_95d88_53, eJ13_stringSize_95d88_54, ite_le, n45, n54, true_or, or_true, false_or, or_false, false_and, and_false, kx_l, kx_r, go_s, gl_s, gi_s, gb_s2, gb_s3, gq_s, wt_nil, wt_int, wt_long, wt_ref, wt_null, nl_int, nl_long, nl_ref, nl_null, nl_none, rf_n, rf_s, rf_st, tl_s, tl_n, g0, gS, ex1, nb_b, nb_0, nb_1, nf_i, nf_l, nf_ra, nf_ro, nf_na, nf_no, nf_b0, nf_z0, t45_4, t45_5, true_and, and_true, List.set_cons_zero, List.set_cons_succ, List.length_cons, List.length_nil, rd_s, upw_s, ne_eq, not_false_eq_true, Nat.zero_add, Nat.add_zero, if_true, if_false, lt_f (show (19 : Int32).toInt ≤ i.toInt by omega)]
    repeat' first | with_reducible refine And.intro ?_ ?_ | omega
    refine hQ _ 19 (by decide) (by decide) ?_ ?_
    · rw [i32_add (by omega) (by omega), e19]; rfl
    · have h3 := (i64_bd x).1
      have h4 : (10 : Int) ^ 19 = 10000000000000000000 := by decide
      omega
  | succ e ih =>
    intro p i hi h1 hp
    have e19 : (19 : Int32).toInt = 19 := rfl
    have hp := hp (by omega)
    rw [eJ13_stringSize_95d88_20]
    simp only [eJ13_stringSize_95d88_0, eJ13_stringSize_95d88_1, eJ13_stringSize_95d88_2, eJ13_stringSize_95d88_3, eJ13_stringSize_95d88_4, eJ13_stringSize_95d88_5, eJ13_stringSize_95d88_8, eJ13_stringSize_95d88_9, eJ13_stringSize_95d88_10, eJ13_stringSize_95d88_11, eJ13_stringSize_95d88_12, eJ13_stringSize_95d88_13, eJ13_stringSize_95d88_16, eJ13_stringSize_95d88_17, eJ13_stringSize_95d88_18, eJ13_stringSize_95d88_22, eJ13_stringSize_95d88_24, eJ13_stringSize_95d88_27, eJ13_stringSize_95d88_28, eJ13_stringSize_95d88_29, eJ13_stringSize_95d88_30, eJ13_stringSize_95d88_33, eJ13_stringSize_95d88_35, eJ13_stringSize_95d88_36, eJ13_stringSize_95d88_37, eJ13_stringSize_95d88_38, eJ13_stringSize_95d88_41, eJ13_stringSize_95d88_42, eJ13_stringSize_95d88_43, eJ13_stringSize_95d88_44, eJ13_stringSize_95d88_47, eJ13_stringSize_95d88_50, eJ13_stringSize_95d88_52, eJ13_stringSize_95d88_53, eJ13_stringSize_95d88_54, ite_le, n45, n54, true_or, or_true, false_or, or_false, false_and, and_false, kx_l, kx_r, go_s, gl_s, gi_s, gb_s2, gb_s3, gq_s, wt_nil, wt_int, wt_long, wt_ref, wt_null, nl_int, nl_long, nl_ref, nl_null, nl_none, rf_n, rf_s, rf_st, tl_s, tl_n, g0, gS, ex1, nb_b, nb_0, nb_1, nf_i, nf_l, nf_ra, nf_ro, nf_na, nf_no, nf_b0, nf_z0, t45_4, t45_5, true_and, and_true, List.set_cons_zero, List.set_cons_succ, List.length_cons, List.length_nil, rd_s, upw_s, ne_eq, not_false_eq_true, Nat.zero_add, Nat.add_zero, if_true, if_false, lt_t (show i.toInt < (19 : Int32).toInt by omega), lg_cmp_gt]
    split
    · next hlt =>
      have h5 := i64_lt hlt
      repeat' first | with_reducible refine And.intro ?_ ?_ | omega
      refine hQ _ i.toInt.toNat (by omega) (by omega) ?_ (by omega)
      rw [i32_add (by omega) (by omega)]
      omega
    · have e1 : (i + 1).toInt = i.toInt + 1 := i32_add (by show -2147483648 ≤ i.toInt + 1; omega) (by show i.toInt + 1 ≤ 2147483647; omega)
      refine ih _ _ (by omega) (by omega) (fun h => ?_)
      rw [i64_mul10 hp (by omega), e1]
      congr 2
      omega
set_option maxHeartbeats 4000000 in
theorem sJ13_stringSize_95d88 {a : Int64} (hQ : ∀ (v : Int32) (kk : Nat), 1 ≤ kk → kk ≤ 19 → (v.toInt = kk + (if a.toInt < 0 then 1 else 0)) → -((10 : Int) ^ kk) < a.toInt → a.toInt < (10 : Int) ^ kk → Q (.inl (some (.int v))) w) : WP (MJ13_stringSize_95d88 g) Q (0, [some (.long a), none, none, none, none, none], [], w, 0, 0) := by
  have e1 : (1 : Int32).toInt = 1 := rfl
  have e0 : (0 : Int32).toInt = 0 := rfl
  have z0 : (0 : Int64).toInt = 0 := rfl
  have m10 : (-10 : Int64).toInt = -10 := by decide
  simp only [eJ13_stringSize_95d88_0, eJ13_stringSize_95d88_1, eJ13_stringSize_95d88_2, eJ13_stringSize_95d88_3, eJ13_stringSize_95d88_4, eJ13_stringSize_95d88_5, eJ13_stringSize_95d88_8, eJ13_stringSize_95d88_9, eJ13_stringSize_95d88_10, eJ13_stringSize_95d88_11, eJ13_stringSize_95d88_12, eJ13_stringSize_95d88_13, eJ13_stringSize_95d88_16, eJ13_stringSize_95d88_17, eJ13_stringSize_95d88_18, eJ13_stringSize_95d88_22, eJ13_stringSize_95d88_24, eJ13_stringSize_95d88_27, eJ13_stringSize_95d88_28, eJ13_stringSize_95d88_29, eJ13_stringSize_95d88_30, eJ13_stringSize_95d88_33, eJ13_stringSize_95d88_35, eJ13_stringSize_95d88_36, eJ13_stringSize_95d88_37, eJ13_stringSize_95d88_38, eJ13_stringSize_95d88_41, eJ13_stringSize_95d88_42, eJ13_stringSize_95d88_43, eJ13_stringSize_95d88_44, eJ13_stringSize_95d88_47, eJ13_stringSize_95d88_50, eJ13_stringSize_95d88_52, eJ13_stringSize_95d88_53, eJ13_stringSize_95d88_54, ite_le, n45, n54, true_or, or_true, false_or, or_false, false_and, and_false, kx_l, kx_r, go_s, gl_s, gi_s, gb_s2, gb_s3, gq_s, wt_nil, wt_int, wt_long, wt_ref, wt_null, nl_int, nl_long, nl_ref, nl_null, nl_none, rf_n, rf_s, rf_st, tl_s, tl_n, g0, gS, ex1, nb_b, nb_0, nb_1, nf_i, nf_l, nf_ra, nf_ro, nf_na, nf_no, nf_b0, nf_z0, t45_4, t45_5, true_and, and_true, List.set_cons_zero, List.set_cons_succ, List.length_cons, List.length_nil, rd_s, upw_s, ne_eq, not_false_eq_true, Nat.zero_add, Nat.add_zero, if_true, if_false, lg_cmp_lt]
  split
  · next h =>
    have h1 := i64_lt h
    refine lJ13_ss (by decide) (by decide) (fun v kk k1 k2 k3 k4 => hQ v kk k1 k2 (by rw [if_pos (by omega)]; omega) k4 (by have := p10p kk; omega)) 18 _ _ (by decide) (by decide) (fun _ => by rw [m10]; rfl)
  · next h =>
    have h1 := i64_nlt h
    have hn : (-a).toInt = -a.toInt := i64_neg (by omega)
    refine lJ13_ss (by decide) (by decide) (fun v kk k1 k2 k3 k4 => hQ v kk k1 k2 (by rw [if_neg (by omega)]; omega) (by have := p10p kk; omega) (by omega)) 18 _ _ (by decide) (by decide) (fun _ => by rw [m10]; rfl)
end
end
/-! 60.text2.lean.txt -/
section
section
variable {g : RO} {Q : Ot → Hw → Prop} {w0 w : Hw}
theorem DG.upd {g : RO} {w : Hw} {d : Nat} {o o' : Ob} (h : DG g w) (hd : w d = some o) : DG g (upw w d o') := by
  obtain ⟨h1, ⟨a, f, h2, h3, h4⟩, ⟨b, f', h5, h6, h7⟩⟩ := h
  refine ⟨h1, ⟨a, f, h2, h3, ?_⟩, ⟨b, f', h5, h6, ?_⟩⟩
  · rw [upw_n]
    · exact h4
    · rintro rfl
      rw [h4] at hd
      cases hd
  · rw [upw_n]
    · exact h7
    · rintro rfl
      rw [h7] at hd
      cases hd
theorem tn100 : (¬ (100 : Int32) = 0) = True := eq_true (by decide)
theorem tn100l : (¬ (100 : Int64) = 0) = True := eq_true (by decide)
theorem neg_tdiv100 {y : Int} (h : y ≤ 0) : y.tdiv 100 = -((-y) / 100) := by
  obtain ⟨n, rfl⟩ : ∃ n : Int, y = -n := ⟨-y, by omega⟩
  rw [Int.neg_tdiv, Int.tdiv_eq_ediv_of_nonneg (by omega), Int.neg_neg]
theorem i32_d100 {y : Int32} (h : y.toInt ≤ 0) : (y / 100).toInt = -((-y.toInt) / 100) := by
  have e : (100 : Int32).toInt = 100 := rfl
  have h2 := i32_bd y
  rw [Int32.toInt_div, e, neg_tdiv100 h]
  exact Int.bmod_eq_of_le (by omega) (by omega)
theorem i32_r100 {y : Int32} (h : y.toInt ≤ 0) : (y / 100 * 100 - y).toInt = -y.toInt - (-y.toInt) / 100 * 100 := by
  have e : (100 : Int32).toInt = 100 := rfl
  have h2 := i32_bd y
  have m : (y / 100 * 100).toInt = -((-y.toInt) / 100) * 100 := by
    rw [Int32.toInt_mul, e, i32_d100 h]
    exact Int.bmod_eq_of_le (by omega) (by omega)
  rw [i32_sub (by omega) (by omega), m]
  omega
theorem i64_d100 {y : Int64} (h : y.toInt ≤ 0) : (y / 100).toInt = -((-y.toInt) / 100) := by
  have e : (100 : Int64).toInt = 100 := rfl
  have h2 := i64_bd y
  rw [Int64.toInt_div, e, neg_tdiv100 h]
  exact Int.bmod_eq_of_le (by omega) (by omega)
theorem i64_r100 {y : Int64} (h : y.toInt ≤ 0) : (y / 100 * 100 - y).toInt32.toInt = -y.toInt - (-y.toInt) / 100 * 100 := by
  have e : (100 : Int64).toInt = 100 := rfl
  have h2 := i64_bd y
  have m : (y / 100 * 100).toInt = -((-y.toInt) / 100) * 100 := by
    rw [Int64.toInt_mul, e, i64_d100 h]
    exact Int.bmod_eq_of_le (by omega) (by omega)
  have s : (y / 100 * 100 - y).toInt = -y.toInt - (-y.toInt) / 100 * 100 := by
    rw [Int64.toInt_sub, m, Int.bmod_eq_of_le (by omega) (by omega)]
    omega
  rw [Int64.toInt_toInt32, s]
  exact Int.bmod_eq_of_le (by omega) (by omega)
theorem i64_i32 {y : Int64} (h : -2147483648 < y.toInt) (h2 : y.toInt ≤ 0) : y.toInt32.toInt = y.toInt := by
  rw [Int64.toInt_toInt32]
  exact Int.bmod_eq_of_le (by omega) (by omega)
theorem i32_m1 {i : Int32} (h : -2147483648 < i.toInt) : (i + -1).toInt = i.toInt - 1 := by
  have h2 := i32_bd i
  have e : (-1 : Int32).toInt = -1 := by decide
  rw [i32_add (by omega) (by omega), e]
  omega
theorem i32_ngl {y : Int32} (h : y.toInt ≤ 0) (h2 : -2147483648 < y.toInt) : (-y).toInt = -y.toInt := by
  rw [Int32.toInt_neg]
  exact Int.bmod_eq_of_le (by omega) (by omega)
theorem i32_ne0 {y : Int32} (h : ¬ y = 0) : ¬ y.toInt = 0 := fun k => h (Int32.toInt_inj.mp k)
theorem p10_3 {kk : Nat} {n : Int} (h : n < (10 : Int) ^ kk) (h2 : 100 ≤ n) : ∃ k', kk = k' + 2 ∧ 1 ≤ k' ∧ n / 100 < (10 : Int) ^ k' := by
  match kk, h with
  | 0, h => have e : (10 : Int) ^ 0 = 1 := rfl
            omega
  | 1, h => have e : (10 : Int) ^ 1 = 10 := rfl
            omega
  | 2, h => have e : (10 : Int) ^ 2 = 100 := rfl
            omega
  | k + 3, h =>
    refine ⟨k + 1, rfl, by omega, ?_⟩
    rw [p10s, p10s] at h
    omega
set_option maxHeartbeats 8000000 in
theorem lJ13_gc86 {x : Int64} {ix : Int32} {d N : Nat} (hN : N ≤ 2000) : ∀ (e kk : Nat) (y cp ng : Int32) (l4 l5 l6 l9 : Option Value) (f : Nat → Int32) (w : Hw), kk ≤ e → 1 ≤ kk → y.toInt ≤ 0 → -((10 : Int) ^ kk) < y.toInt → 0 ≤ ng.toInt → ng.toInt ≤ 1 → kk + ng.toInt ≤ cp.toInt → cp.toInt ≤ (N : Int) → w d = some (.inl (2, N, .inl f)) → bOK N f → DG g w →
    (∀ (f' : Nat → Int32) (v : Int32), bOK N f' → Q (.inl (some (.int v))) (upw w d (.inl (2, N, .inl f')))) → WP (MJ13_getChars_11360 g) Q (86, [some (.long x), none, some (.int ix), some (.ref d), l4, l5, l6, some (.int cp), some (.int ng), l9, some (.int y)], [], w, 0, 0) := by
  intro e
  induction e with
  | zero =>
    intro kk y cp ng l4 l5 l6 l9 f w h1 h2
    exfalso
    omega
  | succ e ih =>
    intro kk y cp ng l4 l5 l6 l9 f w h1 h2 h3 h4 h5 h6 h7 h8 hd hf hD hQ
    obtain ⟨hcs, ⟨a1, f1, g1, g2, g3⟩, ⟨a2, f2, g4, g5, g6⟩⟩ := id hD
    have r1 := rd_r g2 g3
    have r2 := rd_r g5 g6
    have rdd := rd_e (g := g) hd
    have n1 : a1 ≠ d := fun e => by
      rw [e, hd] at g3
      cases g3
    have n2 : a2 ≠ d := fun e => by
      rw [e, hd] at g6
      cases g6
    have e100 : (-100 : Int32).toInt = -100 := by decide
    have e9 : (-9 : Int32).toInt = -9 := by decide
    obtain ⟨p1, hp1⟩ : ∃ p1, cp + -1 = p1 := ⟨_, rfl⟩
    obtain ⟨p2, hp2⟩ : ∃ p2, p1 + -1 = p2 := ⟨_, rfl⟩
    obtain ⟨p3, hp3⟩ : ∃ p3, p2 + -1 = p3 := ⟨_, rfl⟩
    have c1 : p1.toInt = cp.toInt - 1 := by rw [← hp1]; exact i32_m1 (by omega)
    have c2 : p2.toInt = p1.toInt - 1 := by rw [← hp2]; exact i32_m1 (by omega)
    have c3 : p3.toInt = p2.toInt - 1 := by rw [← hp3]; exact i32_m1 (by omega)
    have iv1 : vp_in p1 N := vpiN (by omega) (by omega)
    rw [eJ13_getChars_11360_86]
    simp only [eJ13_getChars_11360_0, eJ13_getChars_11360_1, eJ13_getChars_11360_3, eJ13_getChars_11360_4, eJ13_getChars_11360_5, eJ13_getChars_11360_6, eJ13_getChars_11360_9, eJ13_getChars_11360_10, eJ13_getChars_11360_13, eJ13_getChars_11360_14, eJ13_getChars_11360_16, eJ13_getChars_11360_18, eJ13_getChars_11360_21, eJ13_getChars_11360_22, eJ13_getChars_11360_23, eJ13_getChars_11360_25, eJ13_getChars_11360_28, eJ13_getChars_11360_29, eJ13_getChars_11360_32, eJ13_getChars_11360_33, eJ13_getChars_11360_36, eJ13_getChars_11360_37, eJ13_getChars_11360_39, eJ13_getChars_11360_41, eJ13_getChars_11360_44, eJ13_getChars_11360_45, eJ13_getChars_11360_46, eJ13_getChars_11360_47, eJ13_getChars_11360_48, eJ13_getChars_11360_50, eJ13_getChars_11360_52, eJ13_getChars_11360_53, eJ13_getChars_11360_53N, eJ13_getChars_11360_54, eJ13_getChars_11360_57, eJ13_getChars_11360_59, eJ13_getChars_11360_62, eJ13_getChars_11360_64, eJ13_getChars_11360_65, eJ13_getChars_11360_66, eJ13_getChars_11360_66N, eJ13_getChars_11360_67, eJ13_getChars_11360_70, eJ13_getChars_11360_72, eJ13_getChars_11360_75, eJ13_getChars_11360_77, eJ13_getChars_11360_78, eJ13_getChars_11360_79, eJ13_getChars_11360_82, eJ13_getChars_11360_83, eJ13_getChars_11360_84, eJ13_getChars_11360_88, eJ13_getChars_11360_90, eJ13_getChars_11360_93, eJ13_getChars_11360_95, eJ13_getChars_11360_97, eJ13_getChars_11360_98, eJ13_getChars_11360_100, eJ13_getChars_11360_102, eJ13_getChars_11360_104, eJ13_getChars_11360_105, eJ13_getChars_11360_107, eJ13_getChars_11360_108, eJ13_getChars_11360_110, eJ13_getChars_11360_112, eJ13_getChars_11360_114, eJ13_getChars_11360_114N, eJ13_getChars_11360_115, eJ13_getChars_11360_118, eJ13_getChars_11360_120, eJ13_getChars_11360_123, eJ13_getChars_11360_125, eJ13_getChars_11360_126, eJ13_getChars_11360_127, eJ13_getChars_11360_127N, eJ13_getChars_11360_128, eJ13_getChars_11360_131, eJ13_getChars_11360_133, eJ13_getChars_11360_136, eJ13_getChars_11360_138, eJ13_getChars_11360_139, eJ13_getChars_11360_140, eJ13_getChars_11360_143, eJ13_getChars_11360_143N, eJ13_getChars_11360_144, eJ13_getChars_11360_147, eJ13_getChars_11360_149, eJ13_getChars_11360_152, eJ13_getChars_11360_154, eJ13_getChars_11360_155, eJ13_getChars_11360_156, eJ13_getChars_11360_157, eJ13_getChars_11360_159, eJ13_getChars_11360_161, eJ13_getChars_11360_164, eJ13_getChars_11360_164N, eJ13_getChars_11360_165, eJ13_getChars_11360_168, eJ13_getChars_11360_170, eJ13_getChars_11360_173, eJ13_getChars_11360_175, eJ13_getChars_11360_176, eJ13_getChars_11360_177, eJ13_getChars_11360_178, eJ13_getChars_11360_180, eJ13_getChars_11360_183, eJ13_getChars_11360_183N, eJ13_getChars_11360_184, eJ13_getChars_11360_187, eJ13_getChars_11360_189, eJ13_getChars_11360_191, eJ13_getChars_11360_192, eJ13_getChars_11360_194, ite_le, n45, n54, true_or, or_true, false_or, or_false, false_and, and_false, kx_l, kx_r, go_s, gl_s, gi_s, gb_s2, gb_s3, gq_s, wt_nil, wt_int, wt_long, wt_ref, wt_null, nl_int, nl_long, nl_ref, nl_null, nl_none, rf_n, rf_s, rf_st, tl_s, tl_n, g0, gS, ex1, nb_b, nb_0, nb_1, nf_i, nf_l, nf_ra, nf_ro, nf_na, nf_no, nf_b0, nf_z0, t45_4, t45_5, true_and, and_true, List.set_cons_zero, List.set_cons_succ, List.length_cons, List.length_nil, rd_s, upw_s, ne_eq, not_false_eq_true, Nat.zero_add, Nat.add_zero, if_true, if_false, g1, g4, r1, r2, hd, rdd, bty_2, upw2, rd_n, n1, n2, lg_cmp_gt, lg_cmp_lt, tn100, tn100l, hp1, hp2, hp3]
    split
    · next hy =>
      have hy := i32_lt hy
      have av : vp_in (-y) 100 := vpiN (by rw [i32_ngl h3 (by omega)]; omega) (by rw [i32_ngl h3 (by omega)]; omega)
      refine ⟨av, iv1, ?_⟩
      split
      · next hz =>
        have hz := i32_lt hz
        have k2 : 2 ≤ kk := by
          rcases Nat.lt_or_ge kk 2 with q | q
          · have q1 : kk = 1 := by omega
            subst q1
            have e1 : (10 : Int) ^ 1 = 10 := rfl
            omega
          · exact q
        refine ⟨av, vpiN (by omega) (by omega), ?_⟩
        split
        · repeat' first | with_reducible refine And.intro ?_ ?_ | omega
          refine hQ _ _ ?_
          repeat' first | assumption | apply bOK_up
        · next hng =>
          have := i32_ne0 hng
          refine ⟨vpiN (by omega) (by omega), ?_⟩
          repeat' first | with_reducible refine And.intro ?_ ?_ | omega
          refine hQ _ _ ?_
          repeat' first | assumption | apply bOK_up
      · split
        · repeat' first | with_reducible refine And.intro ?_ ?_ | omega
          refine hQ _ _ ?_
          repeat' first | assumption | apply bOK_up
        · next hng =>
          have := i32_ne0 hng
          refine ⟨vpiN (by omega) (by omega), ?_⟩
          repeat' first | with_reducible refine And.intro ?_ ?_ | omega
          refine hQ _ _ ?_
          repeat' first | assumption | apply bOK_up
    · next hy =>
      have hy := i32_nlt hy
      obtain ⟨k', rfl, k1, k3⟩ := p10_3 (kk := kk) (n := -y.toInt) (by omega) (by omega)
      have rr : vp_in (y / 100 * 100 - y) 100 := vpiN (by rw [i32_r100 h3]; omega) (by rw [i32_r100 h3]; omega)
      refine ⟨rr, iv1, rr, vpiN (by omega) (by omega), ?_⟩
      refine ih k' _ _ _ _ _ _ _ _ _ (by omega) k1 (by rw [i32_d100 h3]; omega) (by rw [i32_d100 h3]; omega) h5 h6 (by omega) (by omega) (upw_s _ _ _) ?_ (hD.upd hd) ?_
      · repeat' first | assumption | apply bOK_up
      · intro f' v hf'
        rw [upw2]
        exact hQ f' v hf'
set_option maxHeartbeats 8000000 in
theorem lJ13_gc24 {ix : Int32} {d N : Nat} (hN : N ≤ 2000) : ∀ (e kk : Nat) (x : Int64) (cp ng : Int32) (l4 l5 l6 : Option Value) (f : Nat → Int32) (w : Hw), kk ≤ e → 1 ≤ kk → x.toInt ≤ 0 → -((10 : Int) ^ kk) < x.toInt → 0 ≤ ng.toInt → ng.toInt ≤ 1 → kk + ng.toInt ≤ cp.toInt → cp.toInt ≤ (N : Int) → w d = some (.inl (2, N, .inl f)) → bOK N f → DG g w →
    (∀ (f' : Nat → Int32) (v : Int32), bOK N f' → Q (.inl (some (.int v))) (upw w d (.inl (2, N, .inl f')))) → WP (MJ13_getChars_11360 g) Q (24, [some (.long x), none, some (.int ix), some (.ref d), l4, l5, l6, some (.int cp), some (.int ng), none, none], [], w, 0, 0) := by
  intro e
  induction e with
  | zero =>
    intro kk x cp ng l4 l5 l6 f w h1 h2
    exfalso
    omega
  | succ e ih =>
    intro kk x cp ng l4 l5 l6 f w h1 h2 h3 h4 h5 h6 h7 h8 hd hf hD hQ
    obtain ⟨hcs, ⟨a1, f1, g1, g2, g3⟩, ⟨a2, f2, g4, g5, g6⟩⟩ := id hD
    have r1 := rd_r g2 g3
    have r2 := rd_r g5 g6
    have rdd := rd_e (g := g) hd
    have n1 : a1 ≠ d := fun e => by
      rw [e, hd] at g3
      cases g3
    have n2 : a2 ≠ d := fun e => by
      rw [e, hd] at g6
      cases g6
    have emin : (-2147483648 : Int64).toInt = -2147483648 := by decide
    obtain ⟨p1, hp1⟩ : ∃ p1, cp + -1 = p1 := ⟨_, rfl⟩
    obtain ⟨p2, hp2⟩ : ∃ p2, p1 + -1 = p2 := ⟨_, rfl⟩
    have c1 : p1.toInt = cp.toInt - 1 := by rw [← hp1]; exact i32_m1 (by omega)
    have c2 : p2.toInt = p1.toInt - 1 := by rw [← hp2]; exact i32_m1 (by omega)
    have iv1 : vp_in p1 N := vpiN (by omega) (by omega)
    rw [eJ13_getChars_11360_24]
    simp only [eJ13_getChars_11360_0, eJ13_getChars_11360_1, eJ13_getChars_11360_3, eJ13_getChars_11360_4, eJ13_getChars_11360_5, eJ13_getChars_11360_6, eJ13_getChars_11360_9, eJ13_getChars_11360_10, eJ13_getChars_11360_13, eJ13_getChars_11360_14, eJ13_getChars_11360_16, eJ13_getChars_11360_18, eJ13_getChars_11360_21, eJ13_getChars_11360_22, eJ13_getChars_11360_23, eJ13_getChars_11360_25, eJ13_getChars_11360_28, eJ13_getChars_11360_29, eJ13_getChars_11360_32, eJ13_getChars_11360_33, eJ13_getChars_11360_36, eJ13_getChars_11360_37, eJ13_getChars_11360_39, eJ13_getChars_11360_41, eJ13_getChars_11360_44, eJ13_getChars_11360_45, eJ13_getChars_11360_46, eJ13_getChars_11360_47, eJ13_getChars_11360_48, eJ13_getChars_11360_50, eJ13_getChars_11360_52, eJ13_getChars_11360_53, eJ13_getChars_11360_53N, eJ13_getChars_11360_54, eJ13_getChars_11360_57, eJ13_getChars_11360_59, eJ13_getChars_11360_62, eJ13_getChars_11360_64, eJ13_getChars_11360_65, eJ13_getChars_11360_66, eJ13_getChars_11360_66N, eJ13_getChars_11360_67, eJ13_getChars_11360_70, eJ13_getChars_11360_72, eJ13_getChars_11360_75, eJ13_getChars_11360_77, eJ13_getChars_11360_78, eJ13_getChars_11360_79, eJ13_getChars_11360_82, eJ13_getChars_11360_83, eJ13_getChars_11360_84, eJ13_getChars_11360_88, eJ13_getChars_11360_90, eJ13_getChars_11360_93, eJ13_getChars_11360_95, eJ13_getChars_11360_97, eJ13_getChars_11360_98, eJ13_getChars_11360_100, eJ13_getChars_11360_102, eJ13_getChars_11360_104, eJ13_getChars_11360_105, eJ13_getChars_11360_107, eJ13_getChars_11360_108, eJ13_getChars_11360_110, eJ13_getChars_11360_112, eJ13_getChars_11360_114, eJ13_getChars_11360_114N, eJ13_getChars_11360_115, eJ13_getChars_11360_118, eJ13_getChars_11360_120, eJ13_getChars_11360_123, eJ13_getChars_11360_125, eJ13_getChars_11360_126, eJ13_getChars_11360_127, eJ13_getChars_11360_127N, eJ13_getChars_11360_128, eJ13_getChars_11360_131, eJ13_getChars_11360_133, eJ13_getChars_11360_136, eJ13_getChars_11360_138, eJ13_getChars_11360_139, eJ13_getChars_11360_140, eJ13_getChars_11360_143, eJ13_getChars_11360_143N, eJ13_getChars_11360_144, eJ13_getChars_11360_147, eJ13_getChars_11360_149, eJ13_getChars_11360_152, eJ13_getChars_11360_154, eJ13_getChars_11360_155, eJ13_getChars_11360_156, eJ13_getChars_11360_157, eJ13_getChars_11360_159, eJ13_getChars_11360_161, eJ13_getChars_11360_164, eJ13_getChars_11360_164N, eJ13_getChars_11360_165, eJ13_getChars_11360_168, eJ13_getChars_11360_170, eJ13_getChars_11360_173, eJ13_getChars_11360_175, eJ13_getChars_11360_176, eJ13_getChars_11360_177, eJ13_getChars_11360_178, eJ13_getChars_11360_180, eJ13_getChars_11360_183, eJ13_getChars_11360_183N, eJ13_getChars_11360_184, eJ13_getChars_11360_187, eJ13_getChars_11360_189, eJ13_getChars_11360_191, eJ13_getChars_11360_192, eJ13_getChars_11360_194, ite_le, n45, n54, true_or, or_true, false_or, or_false, false_and, and_false, kx_l, kx_r, go_s, gl_s, gi_s, gb_s2, gb_s3, gq_s, wt_nil, wt_int, wt_long, wt_ref, wt_null, nl_int, nl_long, nl_ref, nl_null, nl_none, rf_n, rf_s, rf_st, tl_s, tl_n, g0, gS, ex1, nb_b, nb_0, nb_1, nf_i, nf_l, nf_ra, nf_ro, nf_na, nf_no, nf_b0, nf_z0, t45_4, t45_5, true_and, and_true, List.set_cons_zero, List.set_cons_succ, List.length_cons, List.length_nil, rd_s, upw_s, ne_eq, not_false_eq_true, Nat.zero_add, Nat.add_zero, if_true, if_false, g1, g4, r1, r2, hd, rdd, bty_2, upw2, rd_n, n1, n2, lg_cmp_gt, lg_cmp_lt, tn100, tn100l, hp1, hp2]
    split
    · next hy =>
      have hy := i64_lt hy
      have ey := i64_i32 (y := x) (by omega) h3
      exact lJ13_gc86 hN kk kk _ _ _ _ _ _ _ _ _ (Nat.le_refl _) h2 (by omega) (by omega) h5 h6 h7 h8 hd hf hD hQ
    · next hy =>
      have hy := i64_nlt hy
      obtain ⟨k', rfl, k1, k3⟩ := p10_3 (kk := kk) (n := -x.toInt) (by omega) (by omega)
      have rr : vp_in (x / 100 * 100 - x).toInt32 100 := vpiN (by rw [i64_r100 h3]; omega) (by rw [i64_r100 h3]; omega)
      refine ⟨rr, iv1, rr, vpiN (by omega) (by omega), ?_⟩
      refine ih k' _ _ _ _ _ _ _ _ (by omega) k1 (by rw [i64_d100 h3]; omega) (by rw [i64_d100 h3]; omega) h5 h6 (by omega) (by omega) (upw_s _ _ _) ?_ (hD.upd hd) ?_
      · repeat' first | assumption | apply bOK_up
      · intro f' v hf'
        rw [upw2]
        exact hQ f' v hf'
set_option maxHeartbeats 4000000 in
theorem sJ13_getChars_11360 {a : Int64} {ix : Int32} {d N kk : Nat} {f : Nat → Int32} (hN : N ≤ 2000) (k1 : 1 ≤ kk) (ha : -((10 : Int) ^ kk) < a.toInt) (hb : a.toInt < (10 : Int) ^ kk) (hi : kk + (if a.toInt < 0 then 1 else 0) ≤ ix.toInt) (hi2 : ix.toInt ≤ (N : Int)) (hd : w d = some (.inl (2, N, .inl f))) (hf : bOK N f) (hD : DG g w) (hQ : ∀ (f' : Nat → Int32) (v : Int32), bOK N f' → Q (.inl (some (.int v))) (upw w d (.inl (2, N, .inl f')))) : WP (MJ13_getChars_11360 g) Q (0, [some (.long a), none, some (.int ix), some (.ref d), none, none, none, none, none, none, none], [], w, 0, 0) := by
  have z0 : (0 : Int64).toInt = 0 := rfl
  have e1 : (1 : Int32).toInt = 1 := rfl
  have e0 : (0 : Int32).toInt = 0 := rfl
  have t1 : ((1 : Int32) = 0) = False := eq_false (by decide)
  simp only [eJ13_getChars_11360_0, eJ13_getChars_11360_1, eJ13_getChars_11360_3, eJ13_getChars_11360_4, eJ13_getChars_11360_5, eJ13_getChars_11360_6, eJ13_getChars_11360_9, eJ13_getChars_11360_10, eJ13_getChars_11360_13, eJ13_getChars_11360_14, eJ13_getChars_11360_16, eJ13_getChars_11360_18, eJ13_getChars_11360_21, eJ13_getChars_11360_22, eJ13_getChars_11360_23, eJ13_getChars_11360_25, eJ13_getChars_11360_28, eJ13_getChars_11360_29, eJ13_getChars_11360_32, eJ13_getChars_11360_33, eJ13_getChars_11360_36, eJ13_getChars_11360_37, eJ13_getChars_11360_39, eJ13_getChars_11360_41, eJ13_getChars_11360_44, eJ13_getChars_11360_45, eJ13_getChars_11360_46, eJ13_getChars_11360_47, eJ13_getChars_11360_48, eJ13_getChars_11360_50, eJ13_getChars_11360_52, eJ13_getChars_11360_53, eJ13_getChars_11360_53N, eJ13_getChars_11360_54, eJ13_getChars_11360_57, eJ13_getChars_11360_59, eJ13_getChars_11360_62, eJ13_getChars_11360_64, eJ13_getChars_11360_65, eJ13_getChars_11360_66, eJ13_getChars_11360_66N, eJ13_getChars_11360_67, eJ13_getChars_11360_70, eJ13_getChars_11360_72, eJ13_getChars_11360_75, eJ13_getChars_11360_77, eJ13_getChars_11360_78, eJ13_getChars_11360_79, eJ13_getChars_11360_82, eJ13_getChars_11360_83, eJ13_getChars_11360_84, eJ13_getChars_11360_88, eJ13_getChars_11360_90, eJ13_getChars_11360_93, eJ13_getChars_11360_95, eJ13_getChars_11360_97, eJ13_getChars_11360_98, eJ13_getChars_11360_100, eJ13_getChars_11360_102, eJ13_getChars_11360_104, eJ13_getChars_11360_105, eJ13_getChars_11360_107, eJ13_getChars_11360_108, eJ13_getChars_11360_110, eJ13_getChars_11360_112, eJ13_getChars_11360_114, eJ13_getChars_11360_114N, eJ13_getChars_11360_115, eJ13_getChars_11360_118, eJ13_getChars_11360_120, eJ13_getChars_11360_123, eJ13_getChars_11360_125, eJ13_getChars_11360_126, eJ13_getChars_11360_127, eJ13_getChars_11360_127N, eJ13_getChars_11360_128, eJ13_getChars_11360_131, eJ13_getChars_11360_133, eJ13_getChars_11360_136, eJ13_getChars_11360_138, eJ13_getChars_11360_139, eJ13_getChars_11360_140, eJ13_getChars_11360_143, eJ13_getChars_11360_143N, eJ13_getChars_11360_144, eJ13_getChars_11360_147, eJ13_getChars_11360_149, eJ13_getChars_11360_152, eJ13_getChars_11360_154, eJ13_getChars_11360_155, eJ13_getChars_11360_156, eJ13_getChars_11360_157, eJ13_getChars_11360_159, eJ13_getChars_11360_161, eJ13_getChars_11360_164, eJ13_getChars_11360_164N, eJ13_getChars_11360_165, eJ13_getChars_11360_168, eJ13_getChars_11360_170, eJ13_getChars_11360_173, eJ13_getChars_11360_175, eJ13_getChars_11360_176, eJ13_getChars_11360_177, eJ13_getChars_11360_178, eJ13_getChars_11360_180, eJ13_getChars_11360_183, eJ13_getChars_11360_183N, eJ13_getChars_11360_184, eJ13_getChars_11360_187, eJ13_getChars_11360_189, eJ13_getChars_11360_191, eJ13_getChars_11360_192, eJ13_getChars_11360_194, ite_le, n45, n54, true_or, or_true, false_or, or_false, false_and, and_false, kx_l, kx_r, go_s, gl_s, gi_s, gb_s2, gb_s3, gq_s, wt_nil, wt_int, wt_long, wt_ref, wt_null, nl_int, nl_long, nl_ref, nl_null, nl_none, rf_n, rf_s, rf_st, tl_s, tl_n, g0, gS, ex1, nb_b, nb_0, nb_1, nf_i, nf_l, nf_ra, nf_ro, nf_na, nf_no, nf_b0, nf_z0, t45_4, t45_5, true_and, and_true, List.set_cons_zero, List.set_cons_succ, List.length_cons, List.length_nil, rd_s, upw_s, ne_eq, not_false_eq_true, Nat.zero_add, Nat.add_zero, if_true, if_false, lg_cmp_gt, lg_cmp_lt, t1]
  split
  · next h =>
    have h1 := i64_lt h
    rw [if_pos (by omega)] at hi
    exact lJ13_gc24 hN kk kk _ _ _ _ _ _ _ _ (Nat.le_refl _) k1 (by omega) ha (by decide) (by decide) (by omega) hi2 hd hf hD hQ
  · next h =>
    have h1 := i64_nlt h
    have hn : (-a).toInt = -a.toInt := i64_neg (by omega)
    rw [if_neg (by omega)] at hi
    exact lJ13_gc24 hN kk kk _ _ _ _ _ _ _ _ (Nat.le_refl _) k1 (by omega) (by omega) (by decide) (by decide) (by omega) hi2 hd hf hD hQ
end
end
/-! 60.text3.lean.txt -/
section
section
variable {g : RO} {Q : Ot → Hw → Prop} {w0 w : Hw}
theorem al26 : ((2 : Nat) < 6) = True := eq_true (by decide)
/-- numbers of the JDK's own -/
def SG (g : RO) : Prop := g.1 1 = .int 1 ∧ g.1 30 = .int 2147483639 ∧ g.1 32 = .int 2147483647
theorem shl0 {a : Int32} : a <<< ((0 : Int32) &&& 31) = a := by
  have e : ((0 : Int32) &&& 31) = 0 := rfl
  rw [e]
  simp
theorem shr0 {a : Int32} : a >>> ((0 : Int32) &&& 31) = a := by
  have e : ((0 : Int32) &&& 31) = 0 := rfl
  rw [e]
  simp
theorem ofN {N : Nat} (h : N ≤ 5000) : (Int32.ofNat N).toInt = (N : Int) := Int32.toInt_ofNat_of_lt (by omega)
theorem nl_val {N : Nat} {m : Int32} (hN : N ≤ 1000) (h1 : (N : Int) < m.toInt) (h2 : m.toInt ≤ 2000) : (Int32.ofNat N + (if m - Int32.ofNat N < Int32.ofNat N + 2 then Int32.ofNat N + 2 else m - Int32.ofNat N)).toInt = max m.toInt (2 * (N : Int) + 2) := by
  have e := ofN (N := N) (by omega)
  have e2 : (2 : Int32).toInt = 2 := rfl
  have s1 : (m - Int32.ofNat N).toInt = m.toInt - N := by rw [i32_sub (by omega) (by omega), e]
  have s2 : (Int32.ofNat N + 2).toInt = (N : Int) + 2 := by rw [i32_add (by omega) (by omega), e, e2]
  split
  · next h =>
    have h3 := i32_lt h
    rw [i32_add (by omega) (by omega)]
    omega
  · next h =>
    have h3 := i32_nlt h
    rw [i32_add (by omega) (by omega)]
    omega
set_option maxHeartbeats 4000000 in
theorem sJ8_newLength_cabcc {a0 a1 a2 : Int32} (hS : SG g) (h1 : 0 < (a0 + (if a1 < a2 then a2 else a1)).toInt) (h2 : (a0 + (if a1 < a2 then a2 else a1)).toInt ≤ 2147483639) (hQ : Q (.inl (some (.int (a0 + (if a1 < a2 then a2 else a1))))) w) : WP (MJ8_newLength_cabcc g) Q (0, [some (.int a0), some (.int a1), some (.int a2), none], [], w, 0, 0) := by
  obtain ⟨s1, s2, s3⟩ := hS
  generalize hv : a0 + (if a1 < a2 then a2 else a1) = v at h1 h2 hQ
  have t1 : (0 < v) = True := lt_t h1
  have t2 : (2147483639 < v) = False := lt_f h2
  simp only [eJ8_newLength_cabcc_0, eJ8_newLength_cabcc_1, eJ8_newLength_cabcc_2, eJ8_newLength_cabcc_3, eJ8_newLength_cabcc_6, eJ8_newLength_cabcc_7, eJ8_newLength_cabcc_8, eJ8_newLength_cabcc_9, eJ8_newLength_cabcc_10, eJ8_newLength_cabcc_13, eJ8_newLength_cabcc_14, eJ8_newLength_cabcc_16, eJ8_newLength_cabcc_19, eJ8_newLength_cabcc_20, eJ8_newLength_cabcc_21, eJ8_newLength_cabcc_22, eJ8_newLength_cabcc_26, ite_le, n45, n54, true_or, or_true, false_or, or_false, false_and, and_false, kx_l, kx_r, go_s, gl_s, gi_s, gb_s2, gb_s3, gq_s, wt_nil, wt_int, wt_long, wt_ref, wt_null, nl_int, nl_long, nl_ref, nl_null, nl_none, rf_n, rf_s, rf_st, tl_s, tl_n, g0, gS, ex1, nb_b, nb_0, nb_1, nf_i, nf_l, nf_ra, nf_ro, nf_na, nf_no, nf_b0, nf_z0, t45_4, t45_5, true_and, and_true, List.set_cons_zero, List.set_cons_succ, List.length_cons, List.length_nil, rd_s, upw_s, ne_eq, not_false_eq_true, Nat.zero_add, Nat.add_zero, if_true, if_false, s2, hv, t1, t2]
  repeat' first | with_reducible refine And.intro ?_ ?_ | omega
  all_goals assumption
set_option maxHeartbeats 4000000 in
theorem sJ5_newCapacity_0f7a4 {b d N : Nat} {c ml m : Int32} {f : Nat → Int32} (hS : SG g) (rb : rd g w b = some (.inr (1, [.ref d, .int 0, .int ml, .int c]))) (rdd : rd g w d = some (.inl (2, N, .inl f))) (hN : N ≤ 1000) (h1 : (N : Int) < m.toInt) (h2 : m.toInt ≤ 2000) (hQ : ∀ v : Int32, v.toInt = max m.toInt (2 * (N : Int) + 2) → Q (.inl (some (.int v))) w) : WP (MJ5_newCapacity_0f7a4 g) Q (0, [some (.ref b), some (.int m), none, none, none, none], [], w, 0, 0) := by
  have e := nl_val hN h1 h2
  have e2 : (2 : Int32) <<< ((0 : Int32) &&& 31) = 2 := shl0
  simp only [eJ5_newCapacity_0f7a4_0, eJ5_newCapacity_0f7a4_0N, eJ5_newCapacity_0f7a4_1, eJ5_newCapacity_0f7a4_4, eJ5_newCapacity_0f7a4_5, eJ5_newCapacity_0f7a4_6, eJ5_newCapacity_0f7a4_7, eJ5_newCapacity_0f7a4_7N, eJ5_newCapacity_0f7a4_8, eJ5_newCapacity_0f7a4_11, eJ5_newCapacity_0f7a4_12, eJ5_newCapacity_0f7a4_13, eJ5_newCapacity_0f7a4_14, eJ5_newCapacity_0f7a4_15, eJ5_newCapacity_0f7a4_16, eJ5_newCapacity_0f7a4_18, eJ5_newCapacity_0f7a4_19, eJ5_newCapacity_0f7a4_21, eJ5_newCapacity_0f7a4_22, eJ5_newCapacity_0f7a4_23, eJ5_newCapacity_0f7a4_23N, eJ5_newCapacity_0f7a4_24, eJ5_newCapacity_0f7a4_27, eJ5_newCapacity_0f7a4_28, eJ5_newCapacity_0f7a4_29, eJ5_newCapacity_0f7a4_32, eJ5_newCapacity_0f7a4_34, eJ5_newCapacity_0f7a4_36, eJ5_newCapacity_0f7a4_38, eJ5_newCapacity_0f7a4_51, eJ5_newCapacity_0f7a4_53, eJ5_newCapacity_0f7a4_53N, eJ5_newCapacity_0f7a4_54, eJ5_newCapacity_0f7a4_57, eJ5_newCapacity_0f7a4_58, ite_le, n45, n54, true_or, or_true, false_or, or_false, false_and, and_false, kx_l, kx_r, go_s, gl_s, gi_s, gb_s2, gb_s3, gq_s, wt_nil, wt_int, wt_long, wt_ref, wt_null, nl_int, nl_long, nl_ref, nl_null, nl_none, rf_n, rf_s, rf_st, tl_s, tl_n, g0, gS, ex1, nb_b, nb_0, nb_1, nf_i, nf_l, nf_ra, nf_ro, nf_na, nf_no, nf_b0, nf_z0, t45_4, t45_5, true_and, and_true, List.set_cons_zero, List.set_cons_succ, List.length_cons, List.length_nil, rd_s, upw_s, ne_eq, not_false_eq_true, Nat.zero_add, Nat.add_zero, if_true, if_false, rb, rdd, exal, al26, shl0, shr0]
  repeat' first | with_reducible refine And.intro ?_ ?_ | omega
  refine sJ8_newLength_cabcc hS (by rw [e]; omega) (by rw [e]; omega) ?_
  generalize (Int32.ofNat N + (if m - Int32.ofNat N < Int32.ofNat N + 2 then Int32.ofNat N + 2 else m - Int32.ofNat N)) = v at e ⊢
  have t1 : (v = 2147483647) = False := eq_false (fun h => by
    have h3 : v.toInt = 2147483647 := by rw [h]; rfl
    omega)
  simp only [eJ5_newCapacity_0f7a4_0, eJ5_newCapacity_0f7a4_0N, eJ5_newCapacity_0f7a4_1, eJ5_newCapacity_0f7a4_4, eJ5_newCapacity_0f7a4_5, eJ5_newCapacity_0f7a4_6, eJ5_newCapacity_0f7a4_7, eJ5_newCapacity_0f7a4_7N, eJ5_newCapacity_0f7a4_8, eJ5_newCapacity_0f7a4_11, eJ5_newCapacity_0f7a4_12, eJ5_newCapacity_0f7a4_13, eJ5_newCapacity_0f7a4_14, eJ5_newCapacity_0f7a4_15, eJ5_newCapacity_0f7a4_16, eJ5_newCapacity_0f7a4_18, eJ5_newCapacity_0f7a4_19, eJ5_newCapacity_0f7a4_21, eJ5_newCapacity_0f7a4_22, eJ5_newCapacity_0f7a4_23, eJ5_newCapacity_0f7a4_23N, eJ5_newCapacity_0f7a4_24, eJ5_newCapacity_0f7a4_27, eJ5_newCapacity_0f7a4_28, eJ5_newCapacity_0f7a4_29, eJ5_newCapacity_0f7a4_32, eJ5_newCapacity_0f7a4_34, eJ5_newCapacity_0f7a4_36, eJ5_newCapacity_0f7a4_38, eJ5_newCapacity_0f7a4_51, eJ5_newCapacity_0f7a4_53, eJ5_newCapacity_0f7a4_53N, eJ5_newCapacity_0f7a4_54, eJ5_newCapacity_0f7a4_57, eJ5_newCapacity_0f7a4_58, ite_le, n45, n54, true_or, or_true, false_or, or_false, false_and, and_false, kx_l, kx_r, go_s, gl_s, gi_s, gb_s2, gb_s3, gq_s, wt_nil, wt_int, wt_long, wt_ref, wt_null, nl_int, nl_long, nl_ref, nl_null, nl_none, rf_n, rf_s, rf_st, tl_s, tl_n, g0, gS, ex1, nb_b, nb_0, nb_1, nf_i, nf_l, nf_ra, nf_ro, nf_na, nf_no, nf_b0, nf_z0, t45_4, t45_5, true_and, and_true, List.set_cons_zero, List.set_cons_succ, List.length_cons, List.length_nil, rd_s, upw_s, ne_eq, not_false_eq_true, Nat.zero_add, Nat.add_zero, if_true, if_false, rb, rdd, hS.2.2, t1, exal, al26, shl0, shr0]
  repeat' first | with_reducible refine And.intro ?_ ?_ | omega
  exact hQ v e
set_option maxHeartbeats 4000000 in
theorem sJ7_copyOf_9075b {mc ms : Nat} {a N : Nat} {v : Int32} {f : Nat → Int32} (rdd : rd g w a = some (.inl (2, N, .inl f))) (hf : bOK N f) (hN : N ≤ 1000) (h1 : (N : Int) < v.toInt) (h2 : v.toInt ≤ 3000) (hmc : 1 ≤ mc) (hms : v.toInt ≤ (ms : Int)) (hQ : ∀ (q : Nat) (f' : Nat → Int32), rd g w q = none → bOK v.toNatClampNeg f' → Q (.inl (some (.ref q))) (upw w q (.inl (2, v.toNatClampNeg, .inl f')))) : WP (MJ7_copyOf_9075b g mc ms) Q (0, [some (.ref a), some (.int v), none], [], w, 0, 0) := by
  have e := ofN (N := N) (by omega)
  have ev : v.toNatClampNeg = v.toInt.toNat := rfl
  have t1 : (v = Int32.ofNat N) = False := eq_false (fun h => by
    have h3 : v.toInt = (Int32.ofNat N).toInt := by rw [h]
    omega)
  have t2 : (v < 0) = False := lt_f (by show (0 : Int) ≤ v.toInt; omega)
  have t3 : (v < Int32.ofNat N) = False := lt_f (by omega)
  have t4 : (Int32.ofNat N < 0) = False := lt_f (by show (0 : Int) ≤ _; omega)
  have en : (Int32.ofNat N).toNatClampNeg = N := by
    show (Int32.ofNat N).toInt.toNat = N
    omega
  have z0 : ((0 : Int32) < 0) = False := eq_false (by decide)
  have zn : (0 : Int32).toNatClampNeg = 0 := rfl
  simp only [eJ7_copyOf_9075b_0, eJ7_copyOf_9075b_1, eJ7_copyOf_9075b_1N, eJ7_copyOf_9075b_2, eJ7_copyOf_9075b_3, eJ7_copyOf_9075b_6, eJ7_copyOf_9075b_6N, eJ7_copyOf_9075b_7, eJ7_copyOf_9075b_10N, eJ7_copyOf_9075b_10R, eJ7_copyOf_9075b_13, eJ7_copyOf_9075b_14, eJ7_copyOf_9075b_15, eJ7_copyOf_9075b_17, eJ7_copyOf_9075b_17N, eJ7_copyOf_9075b_18, eJ7_copyOf_9075b_18N, eJ7_copyOf_9075b_19, eJ7_copyOf_9075b_20, eJ7_copyOf_9075b_20N, eJ7_copyOf_9075b_21, eJ7_copyOf_9075b_22, eJ7_copyOf_9075b_22N, eJ7_copyOf_9075b_23, eJ7_copyOf_9075b_24, eJ7_copyOf_9075b_25, eJ7_copyOf_9075b_28O, eJ7_copyOf_9075b_28B, eJ7_copyOf_9075b_31, eJ7_copyOf_9075b_31N, eJ7_copyOf_9075b_32, ite_le, n45, n54, true_or, or_true, false_or, or_false, false_and, and_false, kx_l, kx_r, go_s, gl_s, gi_s, gb_s2, gb_s3, gq_s, wt_nil, wt_int, wt_long, wt_ref, wt_null, nl_int, nl_long, nl_ref, nl_null, nl_none, rf_n, rf_s, rf_st, tl_s, tl_n, g0, gS, ex1, nb_b, nb_0, nb_1, nf_i, nf_l, nf_ra, nf_ro, nf_na, nf_no, nf_b0, nf_z0, t45_4, t45_5, true_and, and_true, List.set_cons_zero, List.set_cons_succ, List.length_cons, List.length_nil, rd_s, upw_s, ne_eq, not_false_eq_true, Nat.zero_add, Nat.add_zero, if_true, if_false, rdd, exal, al26, t1, t2]
  repeat' first | with_reducible refine And.intro ?_ ?_ | omega
  intro q hq
  have hne : a ≠ q := fun h => by
    subst h
    rw [rdd] at hq
    cases hq
  have ra : rd g (upw w q (.inl (2, v.toNatClampNeg, .inl fun _ => 0))) a = some (.inl (2, N, .inl f)) := by rw [rd_n hne]; exact rdd
  simp only [eJ7_copyOf_9075b_0, eJ7_copyOf_9075b_1, eJ7_copyOf_9075b_1N, eJ7_copyOf_9075b_2, eJ7_copyOf_9075b_3, eJ7_copyOf_9075b_6, eJ7_copyOf_9075b_6N, eJ7_copyOf_9075b_7, eJ7_copyOf_9075b_10N, eJ7_copyOf_9075b_10R, eJ7_copyOf_9075b_13, eJ7_copyOf_9075b_14, eJ7_copyOf_9075b_15, eJ7_copyOf_9075b_17, eJ7_copyOf_9075b_17N, eJ7_copyOf_9075b_18, eJ7_copyOf_9075b_18N, eJ7_copyOf_9075b_19, eJ7_copyOf_9075b_20, eJ7_copyOf_9075b_20N, eJ7_copyOf_9075b_21, eJ7_copyOf_9075b_22, eJ7_copyOf_9075b_22N, eJ7_copyOf_9075b_23, eJ7_copyOf_9075b_24, eJ7_copyOf_9075b_25, eJ7_copyOf_9075b_28O, eJ7_copyOf_9075b_28B, eJ7_copyOf_9075b_31, eJ7_copyOf_9075b_31N, eJ7_copyOf_9075b_32, ite_le, n45, n54, true_or, or_true, false_or, or_false, false_and, and_false, kx_l, kx_r, go_s, gl_s, gi_s, gb_s2, gb_s3, gq_s, wt_nil, wt_int, wt_long, wt_ref, wt_null, nl_int, nl_long, nl_ref, nl_null, nl_none, rf_n, rf_s, rf_st, tl_s, tl_n, g0, gS, ex1, nb_b, nb_0, nb_1, nf_i, nf_l, nf_ra, nf_ro, nf_na, nf_no, nf_b0, nf_z0, t45_4, t45_5, true_and, and_true, List.set_cons_zero, List.set_cons_succ, List.length_cons, List.length_nil, rd_s, upw_s, ne_eq, not_false_eq_true, Nat.zero_add, Nat.add_zero, if_true, if_false, ra, exal, al26, t1, t2, t3, t4, z0, en, zn, upw2, eJ7_copyOf_9075b_28B ra (upw_s _ _ _)]
  repeat' first | with_reducible refine And.intro ?_ ?_ | omega
  · intro j hj
    exact hf j (by omega)
  · exact hQ q _ hq (bOK_cpy (N0 := N) hf (bOK_0 _) (by omega))
end
end
/-! 60.text4.lean.txt -/
section
section
variable {g : RO} {Q : Ot → Hw → Prop} {w0 w : Hw}
/-- a builder: its row of bytes d has N places, c are taken -/
def SBo (w : Hw) (b d N : Nat) (c : Int32) : Prop := ∃ (ml : Int32) (f : Nat → Int32), w b = some (.inr (1, [.ref d, .int 0, .int ml, .int c])) ∧ w d = some (.inl (2, N, .inl f)) ∧ bOK N f ∧ 0 ≤ c.toInt ∧ c.toInt ≤ (N : Int)
/-- .. made since w0 -/
def TS (g : RO) (w0 : Hw) (b d N : Nat) (c : Int32) (w : Hw) : Prop := ext g w0 w ∧ (w0 b = none ∧ w0 d = none ∧ g.2 b = none ∧ g.2 d = none) ∧ SBo w b d N c
theorem ext.own {g : RO} {w0 w : Hw} {a : Nat} {o : Ob} (h : ext g w0 w) (h1 : w0 a = none) (h2 : g.2 a = none) : ext g w0 (upw w a o) := by
  refine ⟨fun q o' z => ?_, fun q o' z1 z2 => ?_⟩
  · rw [upw_n]
    · exact h.1 q o' z
    · rintro rfl
      rw [h1] at z
      cases z
  · rw [upw_n]
    · exact h.2 q o' z1 z2
    · rintro rfl
      rw [h2] at z1
      cases z1
theorem TS.opn {w0 w : Hw} {b d N : Nat} {c : Int32} (g : RO) (h : TS g w0 b d N c w) : ∃ (ml : Int32) (f : Nat → Int32), w b = some (.inr (1, [.ref d, .int 0, .int ml, .int c])) ∧ w d = some (.inl (2, N, .inl f)) ∧ bOK N f ∧ 0 ≤ c.toInt ∧ c.toInt ≤ (N : Int) ∧ rd g w b = some (.inr (1, [.ref d, .int 0, .int ml, .int c])) ∧ rd g w d = some (.inl (2, N, .inl f)) ∧ b ≠ d ∧ d ≠ b := by
  obtain ⟨-, -, ml, f, h1, h2, h3, h4, h5⟩ := h
  have hne : b ≠ d := fun e => by
    rw [e, h2] at h1
    cases h1
  exact ⟨ml, f, h1, h2, h3, h4, h5, rd_e h1, rd_e h2, hne, hne.symm⟩
/-- bytes written, the count set -/
theorem TS.fin {w0 w : Hw} {b d N : Nat} {c c' ml : Int32} {f' : Nat → Int32} (h : TS g w0 b d N c w) (hf : bOK N f') (h0 : 0 ≤ c'.toInt) (h1 : c'.toInt ≤ (N : Int)) : TS g w0 b d N c' (upw (upw w d (.inl (2, N, .inl f'))) b (.inr (1, [.ref d, .int 0, .int ml, .int c']))) := by
  obtain ⟨-, -, -, -, -, -, -, -, -, n1, n2⟩ := h.opn g
  exact ⟨(h.1.own h.2.1.2.1 h.2.1.2.2.2).own h.2.1.1 h.2.1.2.2.1, h.2.1, ml, f', upw_s _ _ _, by rw [upw_n n2]; exact upw_s _ _ _, hf, h0, h1⟩
/-- the count set, then bytes written -/
theorem TS.fin2 {w0 w : Hw} {b d N : Nat} {c c' ml : Int32} {f' : Nat → Int32} (h : TS g w0 b d N c w) (hf : bOK N f') (h0 : 0 ≤ c'.toInt) (h1 : c'.toInt ≤ (N : Int)) : TS g w0 b d N c' (upw (upw w b (.inr (1, [.ref d, .int 0, .int ml, .int c']))) d (.inl (2, N, .inl f'))) := by
  obtain ⟨-, -, -, -, -, -, -, -, -, n1, n2⟩ := h.opn g
  exact ⟨(h.1.own h.2.1.1 h.2.1.2.2.1).own h.2.1.2.1 h.2.1.2.2.2, h.2.1, ml, f', by rw [upw_n n1]; exact upw_s _ _ _, upw_s _ _ _, hf, h0, h1⟩
/-- a wider row of bytes -/
theorem TS.wide {w0 w : Hw} {b d N N' q : Nat} {c ml : Int32} {f' : Nat → Int32} (h : TS g w0 b d N c w) (hq : rd g w q = none) (hf : bOK N' f') (h1 : c.toInt ≤ (N' : Int)) : TS g w0 b q N' c (upw (upw w q (.inl (2, N', .inl f'))) b (.inr (1, [.ref q, .int 0, .int ml, .int c]))) := by
  obtain ⟨ml0, f0, e1, -, -, h0, -, -, -, n1, n2⟩ := h.opn g
  have hqn := rd_none hq
  have hqw : w0 q = none := by
    cases hz : w0 q with
    | none => rfl
    | some o =>
      have := h.1.1 q o hz
      rw [hqn] at this
      cases this
  have hqb : q ≠ b := fun e => by
    rw [e, e1] at hqn
    cases hqn
  exact ⟨(h.1.own hqw (rd_ro hq)).own h.2.1.1 h.2.1.2.2.1, ⟨h.2.1.1, hqw, h.2.1.2.2.1, rd_ro hq⟩, ml, f', upw_s _ _ _, by rw [upw_n hqb]; exact upw_s _ _ _, hf, h0, h1⟩
theorem sbCap_v {w : Hw} {b d N : Nat} {c ml : Int32} {f : Nat → Int32} (h1 : w b = some (.inr (1, [.ref d, .int 0, .int ml, .int c]))) (h2 : w d = some (.inl (2, N, .inl f))) : sbCap w b = N := by
  simp only [sbCap, h1, h2]
theorem sbCnt_v {w : Hw} {b d : Nat} {c ml : Int32} (h1 : w b = some (.inr (1, [.ref d, .int 0, .int ml, .int c]))) : sbCnt w b = c := by
  simp only [sbCnt, h1]
theorem kfE_v {w : Hw} {b : Nat} {m : Int32} : kfE [.ref b, .int m] w = if sbCap w b < m.toNatClampNeg then 1 else 0 := rfl
theorem sfE_v {w : Hw} {b : Nat} {m : Int32} : sfE [.ref b, .int m] w = if sbCap w b < m.toNatClampNeg then max m.toNatClampNeg (2 * sbCap w b + 2) else 0 := rfl
theorem kfI_v {w : Hw} {b : Nat} {m : Int32} : kfI [.ref b, .int m] w = kfE [.ref b, .int (sbCnt w b + 1)] w := rfl
theorem sfI_v {w : Hw} {b : Nat} {m : Int32} : sfI [.ref b, .int m] w = sfE [.ref b, .int (sbCnt w b + 1)] w := rfl
theorem kfG_v {w : Hw} {a : Nat} {v : Int32} : kfG [.ref a, .int v] w = 1 := rfl
theorem sfC_v {w : Hw} {a : Nat} {v : Int32} : sfC [.ref a, .int v] w = v.toNatClampNeg := rfl
set_option maxHeartbeats 4000000 in
theorem sJ5_ensureCapacityInternal_d00df {mc ms : Nat} {b d N : Nat} {c m : Int32} (hS : SG g) (hT : TS g w0 b d N c w) (hN : N ≤ 1000) (h0 : 0 ≤ m.toInt) (h2 : m.toInt ≤ 2000) (hmc : (N : Int) < m.toInt → 1 ≤ mc ∧ max m.toInt (2 * (N : Int) + 2) ≤ (ms : Int)) (hQ1 : m.toInt ≤ (N : Int) → Q (.inl none) w) (hQ2 : ∀ (d' N' : Nat) (w' : Hw), (N : Int) < m.toInt → (N' : Int) = max m.toInt (2 * (N : Int) + 2) → TS g w0 b d' N' c w' → Q (.inl none) w') : WP (MJ5_ensureCapacityInternal_d00df g mc ms) Q (0, [some (.ref b), some (.int m), none], [], w, 0, 0) := by
  obtain ⟨ml, f, hb, hd, hf, hc0, hc1, rb, rdd, n1, n2⟩ := hT.opn g
  have e := ofN (N := N) (by omega)
  have s1 : (m - Int32.ofNat N).toInt = m.toInt - N := by rw [i32_sub (by omega) (by omega), e]
  have z0 : (0 : Int32).toInt = 0 := rfl
  simp only [eJ5_ensureCapacityInternal_d00df_0, eJ5_ensureCapacityInternal_d00df_0N, eJ5_ensureCapacityInternal_d00df_1, eJ5_ensureCapacityInternal_d00df_4, eJ5_ensureCapacityInternal_d00df_5, eJ5_ensureCapacityInternal_d00df_5N, eJ5_ensureCapacityInternal_d00df_6, eJ5_ensureCapacityInternal_d00df_9, eJ5_ensureCapacityInternal_d00df_10, eJ5_ensureCapacityInternal_d00df_11, eJ5_ensureCapacityInternal_d00df_12, eJ5_ensureCapacityInternal_d00df_13, eJ5_ensureCapacityInternal_d00df_14, eJ5_ensureCapacityInternal_d00df_17, eJ5_ensureCapacityInternal_d00df_17N, eJ5_ensureCapacityInternal_d00df_18, eJ5_ensureCapacityInternal_d00df_18N, eJ5_ensureCapacityInternal_d00df_19, eJ5_ensureCapacityInternal_d00df_22, eJ5_ensureCapacityInternal_d00df_22N, eJ5_ensureCapacityInternal_d00df_23, eJ5_ensureCapacityInternal_d00df_24, eJ5_ensureCapacityInternal_d00df_27, eJ5_ensureCapacityInternal_d00df_27N, eJ5_ensureCapacityInternal_d00df_28, eJ5_ensureCapacityInternal_d00df_31, eJ5_ensureCapacityInternal_d00df_32R, eJ5_ensureCapacityInternal_d00df_32N, eJ5_ensureCapacityInternal_d00df_35, eJ5_ensureCapacityInternal_d00df_38, ite_le, n45, n54, true_or, or_true, false_or, or_false, false_and, and_false, kx_l, kx_r, go_s, gl_s, gi_s, gb_s2, gb_s3, gq_s, wt_nil, wt_int, wt_long, wt_ref, wt_null, nl_int, nl_long, nl_ref, nl_null, nl_none, rf_n, rf_s, rf_st, tl_s, tl_n, g0, gS, ex1, nb_b, nb_0, nb_1, nf_i, nf_l, nf_ra, nf_ro, nf_na, nf_no, nf_b0, nf_z0, t45_4, t45_5, true_and, and_true, List.set_cons_zero, List.set_cons_succ, List.length_cons, List.length_nil, rd_s, upw_s, ne_eq, not_false_eq_true, Nat.zero_add, Nat.add_zero, if_true, if_false, rb, rdd, exal, al26, shr0]
  split
  · next hlt =>
    have hlt := i32_lt hlt
    obtain ⟨m1, m2⟩ := hmc (by omega)
    repeat' first | with_reducible refine And.intro ?_ ?_ | omega
    all_goals try exact trivial
    refine sJ5_newCapacity_0f7a4 hS rb rdd hN (by omega) h2 fun v hv => ?_
    simp only [eJ5_ensureCapacityInternal_d00df_0, eJ5_ensureCapacityInternal_d00df_0N, eJ5_ensureCapacityInternal_d00df_1, eJ5_ensureCapacityInternal_d00df_4, eJ5_ensureCapacityInternal_d00df_5, eJ5_ensureCapacityInternal_d00df_5N, eJ5_ensureCapacityInternal_d00df_6, eJ5_ensureCapacityInternal_d00df_9, eJ5_ensureCapacityInternal_d00df_10, eJ5_ensureCapacityInternal_d00df_11, eJ5_ensureCapacityInternal_d00df_12, eJ5_ensureCapacityInternal_d00df_13, eJ5_ensureCapacityInternal_d00df_14, eJ5_ensureCapacityInternal_d00df_17, eJ5_ensureCapacityInternal_d00df_17N, eJ5_ensureCapacityInternal_d00df_18, eJ5_ensureCapacityInternal_d00df_18N, eJ5_ensureCapacityInternal_d00df_19, eJ5_ensureCapacityInternal_d00df_22, eJ5_ensureCapacityInternal_d00df_22N, eJ5_ensureCapacityInternal_d00df_23, eJ5_ensureCapacityInternal_d00df_24, eJ5_ensureCapacityInternal_d00df_27, eJ5_ensureCapacityInternal_d00df_27N, eJ5_ensureCapacityInternal_d00df_28, eJ5_ensureCapacityInternal_d00df_31, eJ5_ensureCapacityInternal_d00df_32R, eJ5_ensureCapacityInternal_d00df_32N, eJ5_ensureCapacityInternal_d00df_35, eJ5_ensureCapacityInternal_d00df_38, ite_le, n45, n54, true_or, or_true, false_or, or_false, false_and, and_false, kx_l, kx_r, go_s, gl_s, gi_s, gb_s2, gb_s3, gq_s, wt_nil, wt_int, wt_long, wt_ref, wt_null, nl_int, nl_long, nl_ref, nl_null, nl_none, rf_n, rf_s, rf_st, tl_s, tl_n, g0, gS, ex1, nb_b, nb_0, nb_1, nf_i, nf_l, nf_ra, nf_ro, nf_na, nf_no, nf_b0, nf_z0, t45_4, t45_5, true_and, and_true, List.set_cons_zero, List.set_cons_succ, List.length_cons, List.length_nil, rd_s, upw_s, ne_eq, not_false_eq_true, Nat.zero_add, Nat.add_zero, if_true, if_false, rb, rdd, shl0, exal, al26]
    repeat' first | with_reducible refine And.intro ?_ ?_ | omega
    all_goals try (rw [kfG_v])
    all_goals try (rw [sfC_v])
    all_goals try (show _ ≤ _; have ev : v.toNatClampNeg = v.toInt.toNat := rfl; omega)
    refine sJ7_copyOf_9075b rdd hf hN (by omega) (by omega) (Nat.le_refl _) (by have ev : v.toNatClampNeg = v.toInt.toNat := rfl; omega) fun q f' hq hf' => ?_
    have hqn := rd_none hq
    have hqb : b ≠ q := fun e => by
      rw [← e, hb] at hqn
      cases hqn
    simp only [eJ5_ensureCapacityInternal_d00df_0, eJ5_ensureCapacityInternal_d00df_0N, eJ5_ensureCapacityInternal_d00df_1, eJ5_ensureCapacityInternal_d00df_4, eJ5_ensureCapacityInternal_d00df_5, eJ5_ensureCapacityInternal_d00df_5N, eJ5_ensureCapacityInternal_d00df_6, eJ5_ensureCapacityInternal_d00df_9, eJ5_ensureCapacityInternal_d00df_10, eJ5_ensureCapacityInternal_d00df_11, eJ5_ensureCapacityInternal_d00df_12, eJ5_ensureCapacityInternal_d00df_13, eJ5_ensureCapacityInternal_d00df_14, eJ5_ensureCapacityInternal_d00df_17, eJ5_ensureCapacityInternal_d00df_17N, eJ5_ensureCapacityInternal_d00df_18, eJ5_ensureCapacityInternal_d00df_18N, eJ5_ensureCapacityInternal_d00df_19, eJ5_ensureCapacityInternal_d00df_22, eJ5_ensureCapacityInternal_d00df_22N, eJ5_ensureCapacityInternal_d00df_23, eJ5_ensureCapacityInternal_d00df_24, eJ5_ensureCapacityInternal_d00df_27, eJ5_ensureCapacityInternal_d00df_27N, eJ5_ensureCapacityInternal_d00df_28, eJ5_ensureCapacityInternal_d00df_31, eJ5_ensureCapacityInternal_d00df_32R, eJ5_ensureCapacityInternal_d00df_32N, eJ5_ensureCapacityInternal_d00df_35, eJ5_ensureCapacityInternal_d00df_38, ite_le, n45, n54, true_or, or_true, false_or, or_false, false_and, and_false, kx_l, kx_r, go_s, gl_s, gi_s, gb_s2, gb_s3, gq_s, wt_nil, wt_int, wt_long, wt_ref, wt_null, nl_int, nl_long, nl_ref, nl_null, nl_none, rf_n, rf_s, rf_st, tl_s, tl_n, g0, gS, ex1, nb_b, nb_0, nb_1, nf_i, nf_l, nf_ra, nf_ro, nf_na, nf_no, nf_b0, nf_z0, t45_4, t45_5, true_and, and_true, List.set_cons_zero, List.set_cons_succ, List.length_cons, List.length_nil, rd_s, upw_s, ne_eq, not_false_eq_true, Nat.zero_add, Nat.add_zero, if_true, if_false, hb, hqb, upw_n, tyJ4, nf_ra]
    repeat' first | with_reducible refine And.intro ?_ ?_ | omega
    all_goals try (have ev : v.toNatClampNeg = v.toInt.toNat := rfl; omega)
    refine hQ2 q v.toNatClampNeg _ (by omega) (by have ev : v.toNatClampNeg = v.toInt.toNat := rfl; omega) (hT.wide hq hf' (by have ev : v.toNatClampNeg = v.toInt.toNat := rfl; omega))
  · next hlt =>
    have hlt := i32_nlt hlt
    repeat' first | with_reducible refine And.intro ?_ ?_ | omega
    exact hQ1 (by omega)
end
end
/-! 60.text5.lean.txt -/
section
section
variable {g : RO} {Q : Ot → Hw → Prop} {w0 w : Hw}
theorem zz1 : ((1 : Int32) = 0) = False := eq_false (by decide)
theorem i32_p1 {c : Int32} (h0 : 0 ≤ c.toInt) (h : c.toInt ≤ 2000) : (c + 1).toInt = c.toInt + 1 := i32_add (by show -2147483648 ≤ c.toInt + 1; omega) (by show c.toInt + 1 ≤ 2147483647; omega)
theorem kE {w : Hw} {b d N : Nat} {c m ml : Int32} {f : Nat → Int32} (h1 : w b = some (.inr (1, [.ref d, .int 0, .int ml, .int c]))) (h2 : w d = some (.inl (2, N, .inl f))) (h0 : 0 ≤ m.toInt) : (kfE [.ref b, .int m] w = if (N : Int) < m.toInt then 1 else 0) ∧ ((sfE [.ref b, .int m] w : Nat) : Int) = if (N : Int) < m.toInt then max m.toInt (2 * (N : Int) + 2) else 0 := by
  have em : m.toNatClampNeg = m.toInt.toNat := rfl
  rw [kfE_v, sfE_v, sbCap_v h1 h2, em]
  by_cases h : (N : Int) < m.toInt
  · rw [if_pos h, if_pos h, if_pos (by omega), if_pos (by omega)]
    exact ⟨rfl, by omega⟩
  · rw [if_neg h, if_neg h, if_neg (by omega), if_neg (by omega)]
    exact ⟨rfl, rfl⟩
set_option maxHeartbeats 4000000 in
theorem lJ5_append_3fe6f_10 {mc ms k n : Nat} {b d N : Nat} {c ch : Int32} (hS : SG g) (hT : TS g w0 b d N c w) (hN : N ≤ 1000) (hch : (255 < ch) = False) (hlt : c.toInt + 1 ≤ (N : Int)) (hk : k ≤ mc) (hn : n ≤ ms) (hQ : ∀ w', TS g w0 b d N (c + 1) w' → Q (.inl (some (.ref b))) w') : WP (MJ5_append_3fe6f g mc ms) Q (10, [some (.ref b), some (.int ch)], [], w, k, n) := by
  obtain ⟨ml, f, hb, hd, hf, hc0, hc1, rb, rdd, n1, n2⟩ := hT.opn g
  have cv : vp_in c N := vpiN hc0 (by omega)
  have e1 := i32_p1 hc0 (by omega)
  simp only [eJ5_append_3fe6f_10, eJ5_append_3fe6f_10N, eJ5_append_3fe6f_11, eJ5_append_3fe6f_14, eJ5_append_3fe6f_17, eJ5_append_3fe6f_18, eJ5_append_3fe6f_21, eJ5_append_3fe6f_24, eJ5_append_3fe6f_24N, eJ5_append_3fe6f_25, eJ5_append_3fe6f_28, eJ5_append_3fe6f_28N, eJ5_append_3fe6f_29, eJ5_append_3fe6f_29R, eJ5_append_3fe6f_30, eJ5_append_3fe6f_33IR, eJ5_append_3fe6f_33RR, eJ5_append_3fe6f_34, eJ5_append_3fe6f_35, eJ5_append_3fe6f_36, eJ5_append_3fe6f_39, eJ5_append_3fe6f_40, eJ5_append_3fe6f_41, eJ5_append_3fe6f_42, eJ5_append_3fe6f_45, eJ5_append_3fe6f_45N, eJ5_append_3fe6f_46, eJ5_append_3fe6f_49, eJ5_append_3fe6f_52, eJ5_append_3fe6f_52N, eJ5_append_3fe6f_56, eJ5_append_3fe6f_56N, eJ5_append_3fe6f_57, eJ5_append_3fe6f_60, eJ5_append_3fe6f_60N, eJ5_append_3fe6f_61, eJ5_append_3fe6f_61R, eJ5_append_3fe6f_62, eJ5_append_3fe6f_65IR, eJ5_append_3fe6f_65RR, eJ5_append_3fe6f_66, eJ5_append_3fe6f_67, eJ5_append_3fe6f_68, eJ5_append_3fe6f_71, eJ5_append_3fe6f_75, eJ5_append_3fe6f_75N, eJ5_append_3fe6f_76, eJ5_append_3fe6f_76N, eJ5_isLatin1_aae02_0, eJ5_isLatin1_aae02_3, eJ5_isLatin1_aae02_6, eJ5_isLatin1_aae02_6N, eJ5_isLatin1_aae02_7, eJ5_isLatin1_aae02_10, eJ5_isLatin1_aae02_13, eJ5_isLatin1_aae02_14, eJ5_isLatin1_aae02_17, eJ5_isLatin1_aae02_18, eJ1_canEncode_fc78d_0, eJ1_canEncode_fc78d_1, eJ1_canEncode_fc78d_4, eJ1_canEncode_fc78d_7, eJ1_canEncode_fc78d_8, eJ1_canEncode_fc78d_11, eJ1_canEncode_fc78d_12, ite_le, n45, n54, true_or, or_true, false_or, or_false, false_and, and_false, kx_l, kx_r, go_s, gl_s, gi_s, gb_s2, gb_s3, gq_s, wt_nil, wt_int, wt_long, wt_ref, wt_null, nl_int, nl_long, nl_ref, nl_null, nl_none, rf_n, rf_s, rf_st, tl_s, tl_n, g0, gS, ex1, nb_b, nb_0, nb_1, nf_i, nf_l, nf_ra, nf_ro, nf_na, nf_no, nf_b0, nf_z0, t45_4, t45_5, true_and, and_true, List.set_cons_zero, List.set_cons_succ, List.length_cons, List.length_nil, rd_s, upw_s, ne_eq, not_false_eq_true, Nat.zero_add, Nat.add_zero, if_true, if_false, eq_self, hS.1, zz1, hch, rb, hb, rdd, hd, n1, n2, upw_n, rd_n, bty_2, cv, exal, al26]
  repeat' first | with_reducible refine And.intro ?_ ?_ | omega
  exact hQ _ (hT.fin2 (bOK_up hf _ _) (by omega) (by omega))
set_option maxHeartbeats 4000000 in
theorem sJ5_append_3fe6f {mc ms : Nat} {b d N : Nat} {c ch : Int32} (hS : SG g) (hT : TS g w0 b d N c w) (hN : N ≤ 400) (hch : (255 < ch) = False) (hmc : (N : Int) < c.toInt + 1 → 1 ≤ mc ∧ max (c.toInt + 1) (2 * (N : Int) + 2) ≤ (ms : Int)) (hQ1 : ∀ w', c.toInt + 1 ≤ (N : Int) → TS g w0 b d N (c + 1) w' → Q (.inl (some (.ref b))) w') (hQ2 : ∀ (d' N' : Nat) (w' : Hw), (N : Int) < c.toInt + 1 → (N' : Int) = max (c.toInt + 1) (2 * (N : Int) + 2) → TS g w0 b d' N' (c + 1) w' → Q (.inl (some (.ref b))) w') : WP (MJ5_append_3fe6f g mc ms) Q (0, [some (.ref b), some (.int ch)], [], w, 0, 0) := by
  obtain ⟨ml, f, hb, hd, hf, hc0, hc1, rb, rdd, n1, n2⟩ := hT.opn g
  have e1 := i32_p1 hc0 (by omega)
  obtain ⟨eK, eS⟩ := kE (m := c + 1) hb hd (by omega)
  have hk : kfE [.ref b, .int (c + 1)] w ≤ mc := by
    rw [eK]
    split
    · exact (hmc (by omega)).1
    · exact Nat.zero_le _
  have hs : sfE [.ref b, .int (c + 1)] w ≤ ms := by
    split at eS
    · have := (hmc (by omega)).2
      omega
    · omega
  simp only [eJ5_append_3fe6f_0, eJ5_append_3fe6f_0N, eJ5_append_3fe6f_1, eJ5_append_3fe6f_1N, eJ5_append_3fe6f_2, eJ5_append_3fe6f_5, eJ5_append_3fe6f_6, eJ5_append_3fe6f_7, ite_le, n45, n54, true_or, or_true, false_or, or_false, false_and, and_false, kx_l, kx_r, go_s, gl_s, gi_s, gb_s2, gb_s3, gq_s, wt_nil, wt_int, wt_long, wt_ref, wt_null, nl_int, nl_long, nl_ref, nl_null, nl_none, rf_n, rf_s, rf_st, tl_s, tl_n, g0, gS, ex1, nb_b, nb_0, nb_1, nf_i, nf_l, nf_ra, nf_ro, nf_na, nf_no, nf_b0, nf_z0, t45_4, t45_5, true_and, and_true, List.set_cons_zero, List.set_cons_succ, List.length_cons, List.length_nil, rd_s, upw_s, ne_eq, not_false_eq_true, Nat.zero_add, Nat.add_zero, if_true, if_false, eq_self, rb, hb, hk, hs]
  repeat' first | with_reducible refine And.intro ?_ ?_ | omega
  refine sJ5_ensureCapacityInternal_d00df hS hT (by omega) (by omega) (by omega) (fun h => ⟨by rw [eK, if_pos h]; exact Nat.le_refl _, by rw [eS, if_pos h]; exact Int.le_refl _⟩) (fun h => ?_) (fun d' N' w' h1 h2 hT' => ?_)
  · simp only [eJ5_append_3fe6f_0, eJ5_append_3fe6f_0N, eJ5_append_3fe6f_1, eJ5_append_3fe6f_1N, eJ5_append_3fe6f_2, eJ5_append_3fe6f_5, eJ5_append_3fe6f_6, eJ5_append_3fe6f_7, ite_le, n45, n54, true_or, or_true, false_or, or_false, false_and, and_false, kx_l, kx_r, go_s, gl_s, gi_s, gb_s2, gb_s3, gq_s, wt_nil, wt_int, wt_long, wt_ref, wt_null, nl_int, nl_long, nl_ref, nl_null, nl_none, rf_n, rf_s, rf_st, tl_s, tl_n, g0, gS, ex1, nb_b, nb_0, nb_1, nf_i, nf_l, nf_ra, nf_ro, nf_na, nf_no, nf_b0, nf_z0, t45_4, t45_5, true_and, and_true, List.set_cons_zero, List.set_cons_succ, List.length_cons, List.length_nil, rd_s, upw_s, ne_eq, not_false_eq_true, Nat.zero_add, Nat.add_zero, if_true, if_false, eq_self]
    exact lJ5_append_3fe6f_10 hS hT (by omega) hch (by omega) (by omega) (by omega) (fun w' z => hQ1 w' (by omega) z)
  · simp only [eJ5_append_3fe6f_0, eJ5_append_3fe6f_0N, eJ5_append_3fe6f_1, eJ5_append_3fe6f_1N, eJ5_append_3fe6f_2, eJ5_append_3fe6f_5, eJ5_append_3fe6f_6, eJ5_append_3fe6f_7, ite_le, n45, n54, true_or, or_true, false_or, or_false, false_and, and_false, kx_l, kx_r, go_s, gl_s, gi_s, gb_s2, gb_s3, gq_s, wt_nil, wt_int, wt_long, wt_ref, wt_null, nl_int, nl_long, nl_ref, nl_null, nl_none, rf_n, rf_s, rf_st, tl_s, tl_n, g0, gS, ex1, nb_b, nb_0, nb_1, nf_i, nf_l, nf_ra, nf_ro, nf_na, nf_no, nf_b0, nf_z0, t45_4, t45_5, true_and, and_true, List.set_cons_zero, List.set_cons_succ, List.length_cons, List.length_nil, rd_s, upw_s, ne_eq, not_false_eq_true, Nat.zero_add, Nat.add_zero, if_true, if_false, eq_self]
    exact lJ5_append_3fe6f_10 hS hT' (by omega) hch (by omega) (by omega) (by omega) (fun w' z => hQ2 d' N' w' (by omega) (by omega) z)
set_option maxHeartbeats 4000000 in
theorem lJ5_append_c97b9_17 {mc ms k n : Nat} {b d N : Nat} {c i : Int32} (hS : SG g) (hT : TS g w0 b d N c w) (hD : DG g w) (hN : N ≤ 1000) (hi0 : ¬ i < 0) (hi1 : i < 10) (hlt : c.toInt + 1 ≤ (N : Int)) (hk : k ≤ mc) (hn : n ≤ ms) (hQ : ∀ w', TS g w0 b d N (c + 1) w' → Q (.inl (some (.ref b))) w') : WP (MJ5_append_c97b9 g mc ms) Q (17, [some (.ref b), some (.int i), some (.int c), some (.int (c + 1))], [], w, k, n) := by
  obtain ⟨ml, f, hb, hd, hf, hc0, hc1, rb, rdd, n1, n2⟩ := hT.opn g
  have e1 := i32_p1 hc0 (by omega)
  simp only [eJ5_append_c97b9_17, eJ5_append_c97b9_17N, eJ5_append_c97b9_18, eJ5_append_c97b9_21, eJ5_append_c97b9_24, eJ5_append_c97b9_25, eJ5_append_c97b9_26, eJ5_append_c97b9_26N, eJ5_append_c97b9_27, eJ5_append_c97b9_30R, eJ5_append_c97b9_30N, eJ5_isLatin1_aae02_0, eJ5_isLatin1_aae02_3, eJ5_isLatin1_aae02_6, eJ5_isLatin1_aae02_6N, eJ5_isLatin1_aae02_7, eJ5_isLatin1_aae02_10, eJ5_isLatin1_aae02_13, eJ5_isLatin1_aae02_14, eJ5_isLatin1_aae02_17, eJ5_isLatin1_aae02_18, ite_le, n45, n54, true_or, or_true, false_or, or_false, false_and, and_false, kx_l, kx_r, go_s, gl_s, gi_s, gb_s2, gb_s3, gq_s, wt_nil, wt_int, wt_long, wt_ref, wt_null, nl_int, nl_long, nl_ref, nl_null, nl_none, rf_n, rf_s, rf_st, tl_s, tl_n, g0, gS, ex1, nb_b, nb_0, nb_1, nf_i, nf_l, nf_ra, nf_ro, nf_na, nf_no, nf_b0, nf_z0, t45_4, t45_5, true_and, and_true, List.set_cons_zero, List.set_cons_succ, List.length_cons, List.length_nil, rd_s, upw_s, ne_eq, not_false_eq_true, Nat.zero_add, Nat.add_zero, if_true, if_false, eq_self, hS.1, zz1, rb, hb, rdd, hd, n1, n2, exal, al26]
  repeat' first | with_reducible refine And.intro ?_ ?_ | omega
  refine sJ6_getChars_ba4f3 hd hf hD hi0 hi1 (by omega) (by omega) (fun f' v hf' => ?_)
  simp only [eJ5_append_c97b9_33, eJ5_append_c97b9_33R, eJ5_append_c97b9_33N, eJ5_append_c97b9_34, eJ5_append_c97b9_37, eJ5_append_c97b9_38, eJ5_append_c97b9_39, eJ5_append_c97b9_40, eJ5_append_c97b9_40N, eJ5_append_c97b9_41, eJ5_append_c97b9_47, eJ5_append_c97b9_47R, eJ5_append_c97b9_47N, eJ5_append_c97b9_48, eJ5_append_c97b9_48N, eJ5_append_c97b9_49, eJ5_append_c97b9_50, eJ5_append_c97b9_53, eJ5_append_c97b9_53N, eJ5_append_c97b9_54, eJ5_append_c97b9_54N, ite_le, n45, n54, true_or, or_true, false_or, or_false, false_and, and_false, kx_l, kx_r, go_s, gl_s, gi_s, gb_s2, gb_s3, gq_s, wt_nil, wt_int, wt_long, wt_ref, wt_null, nl_int, nl_long, nl_ref, nl_null, nl_none, rf_n, rf_s, rf_st, tl_s, tl_n, g0, gS, ex1, nb_b, nb_0, nb_1, nf_i, nf_l, nf_ra, nf_ro, nf_na, nf_no, nf_b0, nf_z0, t45_4, t45_5, true_and, and_true, List.set_cons_zero, List.set_cons_succ, List.length_cons, List.length_nil, rd_s, upw_s, ne_eq, not_false_eq_true, Nat.zero_add, Nat.add_zero, if_true, if_false, eq_self, hb, n1, n2, upw_n]
  repeat' first | with_reducible refine And.intro ?_ ?_ | omega
  exact hQ _ (hT.fin hf' (by omega) (by omega))
set_option maxHeartbeats 4000000 in
theorem sJ5_append_c97b9 {mc ms : Nat} {b d N : Nat} {c i : Int32} (hS : SG g) (hT : TS g w0 b d N c w) (hD : DG g w0) (hN : N ≤ 400) (hi0 : ¬ i < 0) (hi1 : i < 10) (hmc : (N : Int) < c.toInt + 1 → 1 ≤ mc ∧ max (c.toInt + 1) (2 * (N : Int) + 2) ≤ (ms : Int)) (hQ1 : ∀ w', c.toInt + 1 ≤ (N : Int) → TS g w0 b d N (c + 1) w' → Q (.inl (some (.ref b))) w') (hQ2 : ∀ (d' N' : Nat) (w' : Hw), (N : Int) < c.toInt + 1 → (N' : Int) = max (c.toInt + 1) (2 * (N : Int) + 2) → TS g w0 b d' N' (c + 1) w' → Q (.inl (some (.ref b))) w') : WP (MJ5_append_c97b9 g mc ms) Q (0, [some (.ref b), some (.int i), none, none], [], w, 0, 0) := by
  obtain ⟨ml, f, hb, hd, hf, hc0, hc1, rb, rdd, n1, n2⟩ := hT.opn g
  have e1 := i32_p1 hc0 (by omega)
  obtain ⟨eK, eS⟩ := kE (m := c + 1) hb hd (by omega)
  have hk : kfE [.ref b, .int (c + 1)] w ≤ mc := by
    rw [eK]
    split
    · exact (hmc (by omega)).1
    · exact Nat.zero_le _
  have hs : sfE [.ref b, .int (c + 1)] w ≤ ms := by
    split at eS
    · have := (hmc (by omega)).2
      omega
    · omega
  simp only [eJ5_append_c97b9_0, eJ5_append_c97b9_0N, eJ5_append_c97b9_1, eJ5_append_c97b9_4, eJ5_append_c97b9_5, eJ5_append_c97b9_6, eJ5_append_c97b9_7, ite_le, n45, n54, true_or, or_true, false_or, or_false, false_and, and_false, kx_l, kx_r, go_s, gl_s, gi_s, gb_s2, gb_s3, gq_s, wt_nil, wt_int, wt_long, wt_ref, wt_null, nl_int, nl_long, nl_ref, nl_null, nl_none, rf_n, rf_s, rf_st, tl_s, tl_n, g0, gS, ex1, nb_b, nb_0, nb_1, nf_i, nf_l, nf_ra, nf_ro, nf_na, nf_no, nf_b0, nf_z0, t45_4, t45_5, true_and, and_true, List.set_cons_zero, List.set_cons_succ, List.length_cons, List.length_nil, rd_s, upw_s, ne_eq, not_false_eq_true, Nat.zero_add, Nat.add_zero, if_true, if_false, eq_self, rb, hb]
  repeat' first | with_reducible refine And.intro ?_ ?_ | omega
  refine sJ6_stringSize_0f7a4 hi0 hi1 ?_
  simp only [eJ5_append_c97b9_10, eJ5_append_c97b9_11, eJ5_append_c97b9_12, eJ5_append_c97b9_12N, eJ5_append_c97b9_13, eJ5_append_c97b9_14, ite_le, n45, n54, true_or, or_true, false_or, or_false, false_and, and_false, kx_l, kx_r, go_s, gl_s, gi_s, gb_s2, gb_s3, gq_s, wt_nil, wt_int, wt_long, wt_ref, wt_null, nl_int, nl_long, nl_ref, nl_null, nl_none, rf_n, rf_s, rf_st, tl_s, tl_n, g0, gS, ex1, nb_b, nb_0, nb_1, nf_i, nf_l, nf_ra, nf_ro, nf_na, nf_no, nf_b0, nf_z0, t45_4, t45_5, true_and, and_true, List.set_cons_zero, List.set_cons_succ, List.length_cons, List.length_nil, rd_s, upw_s, ne_eq, not_false_eq_true, Nat.zero_add, Nat.add_zero, if_true, if_false, eq_self, rb, hb, hk, hs]
  repeat' first | with_reducible refine And.intro ?_ ?_ | omega
  refine sJ5_ensureCapacityInternal_d00df hS hT (by omega) (by omega) (by omega) (fun h => ⟨by rw [eK, if_pos h]; exact Nat.le_refl _, by rw [eS, if_pos h]; exact Int.le_refl _⟩) (fun h => ?_) (fun d' N' w' h1 h2 hT' => ?_)
  · simp only [eJ5_append_c97b9_10, eJ5_append_c97b9_11, eJ5_append_c97b9_12, eJ5_append_c97b9_12N, eJ5_append_c97b9_13, eJ5_append_c97b9_14, ite_le, n45, n54, true_or, or_true, false_or, or_false, false_and, and_false, kx_l, kx_r, go_s, gl_s, gi_s, gb_s2, gb_s3, gq_s, wt_nil, wt_int, wt_long, wt_ref, wt_null, nl_int, nl_long, nl_ref, nl_null, nl_none, rf_n, rf_s, rf_st, tl_s, tl_n, g0, gS, ex1, nb_b, nb_0, nb_1, nf_i, nf_l, nf_ra, nf_ro, nf_na, nf_no, nf_b0, nf_z0, t45_4, t45_5, true_and, and_true, List.set_cons_zero, List.set_cons_succ, List.length_cons, List.length_nil, rd_s, upw_s, ne_eq, not_false_eq_true, Nat.zero_add, Nat.add_zero, if_true, if_false, eq_self]
    exact lJ5_append_c97b9_17 hS hT (hD.ext hT.1) (by omega) hi0 hi1 (by omega) (by omega) (by omega) (fun w' z => hQ1 w' (by omega) z)
  · simp only [eJ5_append_c97b9_10, eJ5_append_c97b9_11, eJ5_append_c97b9_12, eJ5_append_c97b9_12N, eJ5_append_c97b9_13, eJ5_append_c97b9_14, ite_le, n45, n54, true_or, or_true, false_or, or_false, false_and, and_false, kx_l, kx_r, go_s, gl_s, gi_s, gb_s2, gb_s3, gq_s, wt_nil, wt_int, wt_long, wt_ref, wt_null, nl_int, nl_long, nl_ref, nl_null, nl_none, rf_n, rf_s, rf_st, tl_s, tl_n, g0, gS, ex1, nb_b, nb_0, nb_1, nf_i, nf_l, nf_ra, nf_ro, nf_na, nf_no, nf_b0, nf_z0, t45_4, t45_5, true_and, and_true, List.set_cons_zero, List.set_cons_succ, List.length_cons, List.length_nil, rd_s, upw_s, ne_eq, not_false_eq_true, Nat.zero_add, Nat.add_zero, if_true, if_false, eq_self]
    exact lJ5_append_c97b9_17 hS hT' (hD.ext hT'.1) (by omega) hi0 hi1 (by omega) (by omega) (by omega) (fun w' z => hQ2 d' N' w' (by omega) (by omega) z)
set_option maxHeartbeats 4000000 in
theorem sJ4_append_cf468 {mc ms : Nat} {b d N : Nat} {c i : Int32} (hS : SG g) (hT : TS g w0 b d N c w) (hN : N ≤ 400) (hch : (255 < i) = False) (hmc : (N : Int) < c.toInt + 1 → 1 ≤ mc ∧ max (c.toInt + 1) (2 * (N : Int) + 2) ≤ (ms : Int)) (hQ1 : ∀ w', c.toInt + 1 ≤ (N : Int) → TS g w0 b d N (c + 1) w' → Q (.inl (some (.ref b))) w') (hQ2 : ∀ (d' N' : Nat) (w' : Hw), (N : Int) < c.toInt + 1 → (N' : Int) = max (c.toInt + 1) (2 * (N : Int) + 2) → TS g w0 b d' N' (c + 1) w' → Q (.inl (some (.ref b))) w') : WP (MJ4_append_cf468 g mc ms) Q (0, [some (.ref b), some (.int i)], [], w, 0, 0) := by
  obtain ⟨ml, f, hb, hd, hf, hc0, hc1, rb, rdd, n1, n2⟩ := hT.opn g
  have e1 := i32_p1 hc0 (by omega)
  obtain ⟨eK, eS⟩ := kE (m := c + 1) hb hd (by omega)
  rw [← sbCnt_v hb, ← kfI_v (m := i)] at eK
  rw [← sbCnt_v hb, ← sfI_v (m := i)] at eS
  rw [sbCnt_v hb] at eK eS
  have hk : kfI [.ref b, .int i] w ≤ mc := by
    rw [eK]
    split
    · exact (hmc (by omega)).1
    · exact Nat.zero_le _
  have hs : sfI [.ref b, .int i] w ≤ ms := by
    split at eS
    · have := (hmc (by omega)).2
      omega
    · omega
  simp only [eJ4_append_cf468_0, eJ4_append_cf468_0N, eJ4_append_cf468_1, eJ4_append_cf468_2, ite_le, n45, n54, true_or, or_true, false_or, or_false, false_and, and_false, kx_l, kx_r, go_s, gl_s, gi_s, gb_s2, gb_s3, gq_s, wt_nil, wt_int, wt_long, wt_ref, wt_null, nl_int, nl_long, nl_ref, nl_null, nl_none, rf_n, rf_s, rf_st, tl_s, tl_n, g0, gS, ex1, nb_b, nb_0, nb_1, nf_i, nf_l, nf_ra, nf_ro, nf_na, nf_no, nf_b0, nf_z0, t45_4, t45_5, true_and, and_true, List.set_cons_zero, List.set_cons_succ, List.length_cons, List.length_nil, rd_s, upw_s, ne_eq, not_false_eq_true, Nat.zero_add, Nat.add_zero, if_true, if_false, eq_self, rb, hb, hk, hs]
  repeat' first | with_reducible refine And.intro ?_ ?_ | omega
  refine sJ5_append_3fe6f hS hT  (by omega) hch (fun h => ⟨by rw [eK, if_pos (by omega)]; exact Nat.le_refl _, by rw [eS, if_pos (by omega), e1]; exact Int.le_refl _⟩) (fun w' h z => ?_) (fun d' N' w' h h2 z => ?_)
  · simp only [eJ4_append_cf468_0, eJ4_append_cf468_0N, eJ4_append_cf468_1, eJ4_append_cf468_2, eJ4_append_cf468_5, eJ4_append_cf468_5R, eJ4_append_cf468_5N, eJ4_append_cf468_6, eJ4_append_cf468_6N, eJ4_append_cf468_7, eJ4_append_cf468_7N, ite_le, n45, n54, true_or, or_true, false_or, or_false, false_and, and_false, kx_l, kx_r, go_s, gl_s, gi_s, gb_s2, gb_s3, gq_s, wt_nil, wt_int, wt_long, wt_ref, wt_null, nl_int, nl_long, nl_ref, nl_null, nl_none, rf_n, rf_s, rf_st, tl_s, tl_n, g0, gS, ex1, nb_b, nb_0, nb_1, nf_i, nf_l, nf_ra, nf_ro, nf_na, nf_no, nf_b0, nf_z0, t45_4, t45_5, true_and, and_true, List.set_cons_zero, List.set_cons_succ, List.length_cons, List.length_nil, rd_s, upw_s, ne_eq, not_false_eq_true, Nat.zero_add, Nat.add_zero, if_true, if_false, eq_self]
    exact ⟨by omega, by omega, hQ1 w' h z⟩
  · simp only [eJ4_append_cf468_0, eJ4_append_cf468_0N, eJ4_append_cf468_1, eJ4_append_cf468_2, eJ4_append_cf468_5, eJ4_append_cf468_5R, eJ4_append_cf468_5N, eJ4_append_cf468_6, eJ4_append_cf468_6N, eJ4_append_cf468_7, eJ4_append_cf468_7N, ite_le, n45, n54, true_or, or_true, false_or, or_false, false_and, and_false, kx_l, kx_r, go_s, gl_s, gi_s, gb_s2, gb_s3, gq_s, wt_nil, wt_int, wt_long, wt_ref, wt_null, nl_int, nl_long, nl_ref, nl_null, nl_none, rf_n, rf_s, rf_st, tl_s, tl_n, g0, gS, ex1, nb_b, nb_0, nb_1, nf_i, nf_l, nf_ra, nf_ro, nf_na, nf_no, nf_b0, nf_z0, t45_4, t45_5, true_and, and_true, List.set_cons_zero, List.set_cons_succ, List.length_cons, List.length_nil, rd_s, upw_s, ne_eq, not_false_eq_true, Nat.zero_add, Nat.add_zero, if_true, if_false, eq_self]
    exact ⟨by omega, by omega, hQ2 d' N' w' h h2 z⟩
set_option maxHeartbeats 4000000 in
theorem sJ4_append_bf812 {mc ms : Nat} {b d N : Nat} {c i : Int32} (hS : SG g) (hT : TS g w0 b d N c w) (hD : DG g w0) (hN : N ≤ 400) (hi0 : ¬ i < 0) (hi1 : i < 10) (hmc : (N : Int) < c.toInt + 1 → 1 ≤ mc ∧ max (c.toInt + 1) (2 * (N : Int) + 2) ≤ (ms : Int)) (hQ1 : ∀ w', c.toInt + 1 ≤ (N : Int) → TS g w0 b d N (c + 1) w' → Q (.inl (some (.ref b))) w') (hQ2 : ∀ (d' N' : Nat) (w' : Hw), (N : Int) < c.toInt + 1 → (N' : Int) = max (c.toInt + 1) (2 * (N : Int) + 2) → TS g w0 b d' N' (c + 1) w' → Q (.inl (some (.ref b))) w') : WP (MJ4_append_bf812 g mc ms) Q (0, [some (.ref b), some (.int i)], [], w, 0, 0) := by
  obtain ⟨ml, f, hb, hd, hf, hc0, hc1, rb, rdd, n1, n2⟩ := hT.opn g
  have e1 := i32_p1 hc0 (by omega)
  obtain ⟨eK, eS⟩ := kE (m := c + 1) hb hd (by omega)
  rw [← sbCnt_v hb, ← kfI_v (m := i)] at eK
  rw [← sbCnt_v hb, ← sfI_v (m := i)] at eS
  rw [sbCnt_v hb] at eK eS
  have hk : kfI [.ref b, .int i] w ≤ mc := by
    rw [eK]
    split
    · exact (hmc (by omega)).1
    · exact Nat.zero_le _
  have hs : sfI [.ref b, .int i] w ≤ ms := by
    split at eS
    · have := (hmc (by omega)).2
      omega
    · omega
  simp only [eJ4_append_bf812_0, eJ4_append_bf812_0N, eJ4_append_bf812_1, eJ4_append_bf812_2, ite_le, n45, n54, true_or, or_true, false_or, or_false, false_and, and_false, kx_l, kx_r, go_s, gl_s, gi_s, gb_s2, gb_s3, gq_s, wt_nil, wt_int, wt_long, wt_ref, wt_null, nl_int, nl_long, nl_ref, nl_null, nl_none, rf_n, rf_s, rf_st, tl_s, tl_n, g0, gS, ex1, nb_b, nb_0, nb_1, nf_i, nf_l, nf_ra, nf_ro, nf_na, nf_no, nf_b0, nf_z0, t45_4, t45_5, true_and, and_true, List.set_cons_zero, List.set_cons_succ, List.length_cons, List.length_nil, rd_s, upw_s, ne_eq, not_false_eq_true, Nat.zero_add, Nat.add_zero, if_true, if_false, eq_self, rb, hb, hk, hs]
  repeat' first | with_reducible refine And.intro ?_ ?_ | omega
  refine sJ5_append_c97b9 hS hT hD (by omega) hi0 hi1 (fun h => ⟨by rw [eK, if_pos (by omega)]; exact Nat.le_refl _, by rw [eS, if_pos (by omega), e1]; exact Int.le_refl _⟩) (fun w' h z => ?_) (fun d' N' w' h h2 z => ?_)
  · simp only [eJ4_append_bf812_0, eJ4_append_bf812_0N, eJ4_append_bf812_1, eJ4_append_bf812_2, eJ4_append_bf812_5, eJ4_append_bf812_5R, eJ4_append_bf812_5N, eJ4_append_bf812_6, eJ4_append_bf812_6N, eJ4_append_bf812_7, eJ4_append_bf812_7N, ite_le, n45, n54, true_or, or_true, false_or, or_false, false_and, and_false, kx_l, kx_r, go_s, gl_s, gi_s, gb_s2, gb_s3, gq_s, wt_nil, wt_int, wt_long, wt_ref, wt_null, nl_int, nl_long, nl_ref, nl_null, nl_none, rf_n, rf_s, rf_st, tl_s, tl_n, g0, gS, ex1, nb_b, nb_0, nb_1, nf_i, nf_l, nf_ra, nf_ro, nf_na, nf_no, nf_b0, nf_z0, t45_4, t45_5, true_and, and_true, List.set_cons_zero, List.set_cons_succ, List.length_cons, List.length_nil, rd_s, upw_s, ne_eq, not_false_eq_true, Nat.zero_add, Nat.add_zero, if_true, if_false, eq_self]
    exact ⟨by omega, by omega, hQ1 w' h z⟩
  · simp only [eJ4_append_bf812_0, eJ4_append_bf812_0N, eJ4_append_bf812_1, eJ4_append_bf812_2, eJ4_append_bf812_5, eJ4_append_bf812_5R, eJ4_append_bf812_5N, eJ4_append_bf812_6, eJ4_append_bf812_6N, eJ4_append_bf812_7, eJ4_append_bf812_7N, ite_le, n45, n54, true_or, or_true, false_or, or_false, false_and, and_false, kx_l, kx_r, go_s, gl_s, gi_s, gb_s2, gb_s3, gq_s, wt_nil, wt_int, wt_long, wt_ref, wt_null, nl_int, nl_long, nl_ref, nl_null, nl_none, rf_n, rf_s, rf_st, tl_s, tl_n, g0, gS, ex1, nb_b, nb_0, nb_1, nf_i, nf_l, nf_ra, nf_ro, nf_na, nf_no, nf_b0, nf_z0, t45_4, t45_5, true_and, and_true, List.set_cons_zero, List.set_cons_succ, List.length_cons, List.length_nil, rd_s, upw_s, ne_eq, not_false_eq_true, Nat.zero_add, Nat.add_zero, if_true, if_false, eq_self]
    exact ⟨by omega, by omega, hQ2 d' N' w' h h2 z⟩
end
end
/-! 60.text6.lean.txt -/
section
section
variable {g : RO} {Q : Ot → Hw → Prop} {w0 w : Hw}
theorem i32_sr1 {a : Int32} : (a >>> ((1 : Int32) &&& 31)).toInt = a.toInt / 2 := by
  have e : ((1 : Int32) &&& 31) = 1 := rfl
  rw [e]
  have h : (a >>> (1 : Int32)).toBitVec = a.toBitVec.sshiftRight 1 := by
    rw [Int32.toBitVec_shiftRight]
    rfl
  show (a >>> (1 : Int32)).toBitVec.toInt = a.toBitVec.toInt / 2
  rw [h, BitVec.toInt_sshiftRight, Int.shiftRight_eq_div_pow]
  rfl
theorem td10 (y : Int) : -10 < y - y.tdiv 10 * 10 ∧ y - y.tdiv 10 * 10 < 10 ∧ (0 ≤ y → 0 ≤ y.tdiv 10 ∧ y.tdiv 10 * 10 ≤ y) ∧ (y ≤ 0 → y.tdiv 10 ≤ 0 ∧ y ≤ y.tdiv 10 * 10) := by
  rcases Int.le_total 0 y with h | h
  · rw [Int.tdiv_eq_ediv_of_nonneg h]
    omega
  · obtain ⟨n, rfl⟩ : ∃ n : Int, y = -n := ⟨-y, by omega⟩
    rw [Int.neg_tdiv, Int.tdiv_eq_ediv_of_nonneg (by omega)]
    omega
theorem dig10 {x : Int64} {a : Int32} (h : (x - x / 10 * 10).toInt32 = a) : ¬ (if 0 ≤ a then a else 0 - a) < 0 ∧ (if 0 ≤ a then a else 0 - a) < 10 := by
  obtain ⟨h1, h2, h3, h4⟩ := td10 x.toInt
  have e : (10 : Int64).toInt = 10 := rfl
  have b := i64_bd x
  have d : (x / 10).toInt = x.toInt.tdiv 10 := by
    rw [Int64.toInt_div, e]
    exact Int.bmod_eq_of_le (by omega) (by omega)
  have m : (x / 10 * 10).toInt = x.toInt.tdiv 10 * 10 := by
    rw [Int64.toInt_mul, e, d]
    exact Int.bmod_eq_of_le (by omega) (by omega)
  have s : (x - x / 10 * 10).toInt = x.toInt - x.toInt.tdiv 10 * 10 := by
    rw [Int64.toInt_sub, m]
    exact Int.bmod_eq_of_le (by omega) (by omega)
  have ha : a.toInt = x.toInt - x.toInt.tdiv 10 * 10 := by
    rw [← h, Int64.toInt_toInt32, s]
    exact Int.bmod_eq_of_le (by omega) (by omega)
  have z0 : (0 : Int32).toInt = 0 := rfl
  have z10 : (10 : Int32).toInt = 10 := rfl
  generalize x.toInt.tdiv 10 = t at *
  clear d m s h
  split
  · next hp =>
    have hp := Int32.le_iff_toInt_le.mp hp
    exact ⟨i32_of_nlt (by omega), i32_of_lt (by omega)⟩
  · next hp =>
    have hp : a.toInt < 0 := by
      have := mt Int32.le_iff_toInt_le.mpr hp
      omega
    have hn : (0 - a).toInt = -a.toInt := by
      rw [i32_sub (by rw [z0]; omega) (by rw [z0]; omega), z0]
      omega
    exact ⟨i32_of_nlt (by rw [hn, z0]; omega), i32_of_lt (by rw [hn, z10]; omega)⟩
/-- the places that a builder has, what it may still ask for -/
def CP (N : Nat) : Prop := N = 16 ∨ N = 34 ∨ N = 70 ∨ N = 142
def pC (N : Nat) : Nat := if N = 16 then 3 else if N = 34 then 2 else if N = 70 then 1 else 0
def pS (N : Nat) : Nat := if N = 16 then 246 else if N = 34 then 212 else if N = 70 then 142 else 0
theorem CP.le {N : Nat} (h : CP N) : N ≤ 400 := by rcases h with rfl | rfl | rfl | rfl <;> decide
theorem CP.nx {N N' : Nat} {c : Int} (h : CP N) (hc : c ≤ (N : Int)) (hc2 : c < 142) (h1 : (N : Int) < c + 1) (h2 : (N' : Int) = max (c + 1) (2 * (N : Int) + 2)) : CP N' ∧ 1 + pC N' ≤ pC N ∧ 2 * N + 2 + pS N' ≤ pS N ∧ max (c + 1) (2 * (N : Int) + 2) = 2 * (N : Int) + 2 := by
  rcases h with rfl | rfl | rfl | rfl
  · obtain rfl : N' = 34 := by omega
    exact ⟨Or.inr (Or.inl rfl), by decide, by decide, by omega⟩
  · obtain rfl : N' = 70 := by omega
    exact ⟨Or.inr (Or.inr (Or.inl rfl)), by decide, by decide, by omega⟩
  · obtain rfl : N' = 142 := by omega
    exact ⟨Or.inr (Or.inr (Or.inr rfl)), by decide, by decide, by omega⟩
  · omega
theorem kI {w : Hw} {b d N : Nat} {c i ml : Int32} {f : Nat → Int32} (hN : CP N) (h1 : w b = some (.inr (1, [.ref d, .int 0, .int ml, .int c]))) (h2 : w d = some (.inl (2, N, .inl f))) (h0 : 0 ≤ c.toInt) (hc : c.toInt ≤ (N : Int)) (hc2 : c.toInt < 142) : kfI [.ref b, .int i] w ≤ pC N ∧ sfI [.ref b, .int i] w ≤ pS N ∧ (kfI [.ref b, .int i] w = if (N : Int) < c.toInt + 1 then 1 else 0) ∧ (sfI [.ref b, .int i] w = if (N : Int) < c.toInt + 1 then 2 * N + 2 else 0) := by
  have e1 := i32_p1 h0 (by omega)
  obtain ⟨eK, eS⟩ := kE (m := c + 1) h1 h2 (by omega)
  rw [kfI_v, sfI_v, sbCnt_v h1, eK]
  rw [e1] at eS ⊢
  by_cases h : (N : Int) < c.toInt + 1
  · obtain ⟨N', hN'⟩ : ∃ N' : Nat, (N' : Int) = max (c.toInt + 1) (2 * (N : Int) + 2) := ⟨(max (c.toInt + 1) (2 * (N : Int) + 2)).toNat, by omega⟩
    obtain ⟨-, q1, q2, q3⟩ := hN.nx hc hc2 h hN'
    rw [if_pos h] at eS ⊢
    rw [if_pos h]
    exact ⟨by omega, by omega, rfl, by omega⟩
  · rw [if_neg h] at eS ⊢
    rw [if_neg h]
    exact ⟨Nat.zero_le _, by omega, rfl, by omega⟩
theorem sapC {b d N : Nat} {c i : Int32} (hS : SG g) (hT : TS g w0 b d N c w) (hN : CP N) (hc : c.toInt < 142) (hch : (255 < i) = False) (hQ : ∀ (d' N' : Nat) (w' : Hw), CP N' → kfI [.ref b, .int i] w + pC N' ≤ pC N → sfI [.ref b, .int i] w + pS N' ≤ pS N → TS g w0 b d' N' (c + 1) w' → Q (.inl (some (.ref b))) w') : WP (MJ4_append_cf468 g (kfI [.ref b, .int i] w) (sfI [.ref b, .int i] w)) Q (0, [some (.ref b), some (.int i)], [], w, 0, 0) := by
  obtain ⟨ml, f, hb, hd, hf, hc0, hc1, rb, rdd, n1, n2⟩ := hT.opn g
  obtain ⟨k1, k2, k3, k4⟩ := kI (i := i) hN hb hd hc0 hc1 hc
  refine sJ4_append_cf468 hS hT  hN.le hch (fun h => ?_) (fun w' h z => ?_) (fun d' N' w' h h2 z => ?_)
  · obtain ⟨N', hN'⟩ : ∃ N' : Nat, (N' : Int) = max (c.toInt + 1) (2 * (N : Int) + 2) := ⟨(max (c.toInt + 1) (2 * (N : Int) + 2)).toNat, by omega⟩
    obtain ⟨-, q1, q2, q3⟩ := hN.nx hc1 hc h hN'
    rw [if_pos h] at k3 k4
    exact ⟨by omega, by omega⟩
  · rw [if_neg (by omega)] at k3 k4
    exact hQ _ _ _ hN (by omega) (by omega) z
  · obtain ⟨q0, q1, q2, q3⟩ := hN.nx hc1 hc h h2
    rw [if_pos h] at k3 k4
    exact hQ _ _ _ q0 (by omega) (by omega) z
theorem sapI {b d N : Nat} {c i : Int32} (hS : SG g) (hT : TS g w0 b d N c w) (hN : CP N) (hc : c.toInt < 142) (hD : DG g w0) (hi0 : ¬ i < 0) (hi1 : i < 10) (hQ : ∀ (d' N' : Nat) (w' : Hw), CP N' → kfI [.ref b, .int i] w + pC N' ≤ pC N → sfI [.ref b, .int i] w + pS N' ≤ pS N → TS g w0 b d' N' (c + 1) w' → Q (.inl (some (.ref b))) w') : WP (MJ4_append_bf812 g (kfI [.ref b, .int i] w) (sfI [.ref b, .int i] w)) Q (0, [some (.ref b), some (.int i)], [], w, 0, 0) := by
  obtain ⟨ml, f, hb, hd, hf, hc0, hc1, rb, rdd, n1, n2⟩ := hT.opn g
  obtain ⟨k1, k2, k3, k4⟩ := kI (i := i) hN hb hd hc0 hc1 hc
  refine sJ4_append_bf812 hS hT hD hN.le hi0 hi1 (fun h => ?_) (fun w' h z => ?_) (fun d' N' w' h h2 z => ?_)
  · obtain ⟨N', hN'⟩ : ∃ N' : Nat, (N' : Int) = max (c.toInt + 1) (2 * (N : Int) + 2) := ⟨(max (c.toInt + 1) (2 * (N : Int) + 2)).toNat, by omega⟩
    obtain ⟨-, q1, q2, q3⟩ := hN.nx hc1 hc h hN'
    rw [if_pos h] at k3 k4
    exact ⟨by omega, by omega⟩
  · rw [if_neg (by omega)] at k3 k4
    exact hQ _ _ _ hN (by omega) (by omega) z
  · obtain ⟨q0, q1, q2, q3⟩ := hN.nx hc1 hc h h2
    rw [if_pos h] at k3 k4
    exact hQ _ _ _ q0 (by omega) (by omega) z
theorem zr0 : ((0 : Int32) = 0) = True := eq_true rfl
end
end
