/-! RangecardModel.<init>()V -/
theorem dX3_init_0 : decode cX3_init 0 = .ok (.aload_n 0, 1) := by decide +kernel
theorem dX3_init_1 : decode cX3_init 1 = .ok (.invokespecial 1, 3) := by decide +kernel
theorem dX3_init_4 : decode cX3_init 4 = .ok (.aload_n 0, 1) := by decide +kernel
theorem dX3_init_5 : decode cX3_init 5 = .ok (.bipush 8, 2) := by decide +kernel
theorem dX3_init_7 : decode cX3_init 7 = .ok (.newarray .long, 2) := by decide +kernel
theorem dX3_init_9 : decode cX3_init 9 = .ok (.putfield 9, 3) := by decide +kernel
theorem dX3_init_12 : decode cX3_init 12 = .ok (.aload_n 0, 1) := by decide +kernel
theorem dX3_init_13 : decode cX3_init 13 = .ok (.new 13, 3) := by decide +kernel
theorem dX3_init_16 : decode cX3_init 16 = .ok (.dup, 1) := by decide +kernel
theorem dX3_init_17 : decode cX3_init 17 = .ok (.invokespecial 15, 3) := by decide +kernel
theorem dX3_init_20 : decode cX3_init 20 = .ok (.putfield 16, 3) := by decide +kernel
theorem dX3_init_23 : decode cX3_init 23 = .ok (.aload_n 0, 1) := by decide +kernel
theorem dX3_init_24 : decode cX3_init 24 = .ok (.new 13, 3) := by decide +kernel
theorem dX3_init_27 : decode cX3_init 27 = .ok (.dup, 1) := by decide +kernel
theorem dX3_init_28 : decode cX3_init 28 = .ok (.invokespecial 15, 3) := by decide +kernel
theorem dX3_init_31 : decode cX3_init 31 = .ok (.putfield 20, 3) := by decide +kernel
theorem dX3_init_34 : decode cX3_init 34 = .ok (.iconst 0, 1) := by decide +kernel
theorem dX3_init_35 : decode cX3_init 35 = .ok (.istore_n 1, 1) := by decide +kernel
theorem dX3_init_36 : decode cX3_init 36 = .ok (.iload_n 1, 1) := by decide +kernel
theorem dX3_init_37 : decode cX3_init 37 = .ok (.bipush 6, 2) := by decide +kernel
theorem dX3_init_39 : decode cX3_init 39 = .ok (.if_icmp .ge 18, 3) := by decide +kernel
theorem dX3_init_42 : decode cX3_init 42 = .ok (.aload_n 0, 1) := by decide +kernel
theorem dX3_init_43 : decode cX3_init 43 = .ok (.getfield 16, 3) := by decide +kernel
theorem dX3_init_46 : decode cX3_init 46 = .ok (.aconst_null, 1) := by decide +kernel
theorem dX3_init_47 : decode cX3_init 47 = .ok (.invokevirtual 23, 3) := by decide +kernel
theorem dX3_init_50 : decode cX3_init 50 = .ok (.pop, 1) := by decide +kernel
theorem dX3_init_51 : decode cX3_init 51 = .ok (.iinc 1 1, 3) := by decide +kernel
theorem dX3_init_54 : decode cX3_init 54 = .ok (.goto (-18), 3) := by decide +kernel
theorem dX3_init_57 : decode cX3_init 57 = .ok (.return_, 1) := by decide +kernel
def MX3_init (g : RO) : MT := ((RX3, cX3_init, 2, 7, 9, 104, true, none), [(9, 7, 1), (16, 7, 2), (20, 7, 3)], [(13, 3, [.int 0, .null, .int 0])], [], [], [], 1, [(15, 4, 1, 3, 3, (fun _ _ => 0), (fun _ _ => 0), yJx4a65c_init_da8c8, spOf (MJx4a65c_init_da8c8 g)), (23, 2, 2, 3, 6, (fun _ _ => 1), (fun _ _ => 15), yJx4a65c_add_9ea2d, spOf (MJx4a65c_add_9ea2d g))], [], [], 0, [], [], g)
section
variable {g : RO} {Q : Ot → Hw → Prop} {st : List Value} {w : Hw} {k n p q : Nat} {a b : Int32} {x y : Int64} {u v : Value} {l0 l1 : Option Value}
theorem eX3_init_0 : WP (MX3_init g) Q (0, [some (.ref p), l1], st, w, k, n) = WP (MX3_init g) Q (1, [some (.ref p), l1], .ref p :: st, w, k, n) := Eq.trans (WP_at (M := (MX3_init g)) rfl dX3_init_0 (Or.inr rfl)) rfl
theorem eX3_init_0N : WP (MX3_init g) Q (0, [some .null, l1], st, w, k, n) = WP (MX3_init g) Q (1, [some .null, l1], .null :: st, w, k, n) := Eq.trans (WP_at (M := (MX3_init g)) rfl dX3_init_0 (Or.inr rfl)) rfl
theorem eX3_init_1 : WP (MX3_init g) Q (1, [l0, l1], .ref p :: st, w, k, n) = (wt st ≤ 8 ∧ WP (MX3_init g) Q (4, [l0, l1], st, w, k, n)) := obj_i rfl dX3_init_1 rfl rfl (by decide) (Nat.le_of_ble_eq_true rfl)
theorem eX3_init_4 : WP (MX3_init g) Q (4, [some (.ref p), l1], st, w, k, n) = WP (MX3_init g) Q (5, [some (.ref p), l1], .ref p :: st, w, k, n) := Eq.trans (WP_at (M := (MX3_init g)) rfl dX3_init_4 (Or.inr rfl)) rfl
theorem eX3_init_4N : WP (MX3_init g) Q (4, [some .null, l1], st, w, k, n) = WP (MX3_init g) Q (5, [some .null, l1], .null :: st, w, k, n) := Eq.trans (WP_at (M := (MX3_init g)) rfl dX3_init_4 (Or.inr rfl)) rfl
theorem eX3_init_5 : WP (MX3_init g) Q (5, [l0, l1], st, w, k, n) = WP (MX3_init g) Q (7, [l0, l1], .int 8 :: st, w, k, n) := bipush_e rfl dX3_init_5 (by decide)
theorem eX3_init_7 : WP (MX3_init g) Q (7, [l0, l1], .int a :: st, w, k, n) = (¬ a < 0 ∧ a.toNatClampNeg ≤ 40000 ∧ k + 1 ≤ 9 ∧ n + a.toNatClampNeg ≤ 104 ∧ ∀ q : Nat, rd g w q = none → WP (MX3_init g) Q (9, [l0, l1], .ref q :: st, upw w q (.inl (0, a.toNatClampNeg, .inr (.inl fun _ => 0))), k + 1, n + a.toNatClampNeg)) := Eq.trans (WP_at (M := (MX3_init g)) rfl dX3_init_7 (Or.inr rfl)) rfl
theorem eX3_init_9 : WP (MX3_init g) Q (9, [l0, l1], v :: .ref p :: st, w, k, n) = go (w p) 7 fun fs => 1 < fs.length ∧ (narrow (tyX3 1) v = v ∧ fits (tyX3 1) v = true) ∧ WP (MX3_init g) Q (12, [l0, l1], st, upw w p (.inr (7, fs.set 1 v)), k, n) := put_e (q := (RX3, TX3, 7)) rfl dX3_init_9 rfl rfl (tyX3_ok 1 (by decide)) (Or.inr ⟨rfl, rfl⟩)
theorem eX3_init_12 : WP (MX3_init g) Q (12, [some (.ref p), l1], st, w, k, n) = WP (MX3_init g) Q (13, [some (.ref p), l1], .ref p :: st, w, k, n) := Eq.trans (WP_at (M := (MX3_init g)) rfl dX3_init_12 (Or.inr rfl)) rfl
theorem eX3_init_12N : WP (MX3_init g) Q (12, [some .null, l1], st, w, k, n) = WP (MX3_init g) Q (13, [some .null, l1], .null :: st, w, k, n) := Eq.trans (WP_at (M := (MX3_init g)) rfl dX3_init_12 (Or.inr rfl)) rfl
theorem eX3_init_13 : WP (MX3_init g) Q (13, [l0, l1], st, w, k, n) = (k + 1 ≤ 9 ∧ n + 3 ≤ 104 ∧ ∀ q : Nat, rd g w q = none → WP (MX3_init g) Q (16, [l0, l1], .ref q :: st, upw w q (.inr (3, [.int 0, .null, .int 0])), k + 1, n + 3)) := Eq.trans (new_e (M := (MX3_init g)) (fs := [.int 0, .null, .int 0]) rfl dX3_init_13 rfl) rfl
theorem eX3_init_16 : WP (MX3_init g) Q (16, [l0, l1], .int a :: st, w, k, n) = WP (MX3_init g) Q (17, [l0, l1], .int a :: .int a :: st, w, k, n) := by rw [WP_at (M := (MX3_init g)) rfl dX3_init_16 (Or.inr rfl)]; exact and_t rfl
theorem eX3_init_16R : WP (MX3_init g) Q (16, [l0, l1], .ref p :: st, w, k, n) = WP (MX3_init g) Q (17, [l0, l1], .ref p :: .ref p :: st, w, k, n) := by rw [WP_at (M := (MX3_init g)) rfl dX3_init_16 (Or.inr rfl)]; exact and_t rfl
theorem eX3_init_17  : WP (MX3_init g) Q (17, [l0, l1], .ref p :: st, w, k, n) = (wt st ≤ 8 ∧ k + 0 ≤ 9 ∧ n + 0 ≤ 104 ∧ WP (MJx4a65c_init_da8c8 g) (kx (fun v w' => WP (MX3_init g) Q (20, [l0, l1], v.toList ++ st, w', k + 0, n + 0)) (fun E w' => Q (.inr E) w')) (0, [some (.ref p)], [], w, 0, 0)) := csI (M := (MX3_init g)) (mc := (fun _ _ => 0)) (ms := (fun _ _ => 0)) (As := []) (rest := st) (MJx4a65c_init_da8c8 g) rfl rfl dX3_init_17 (Nat.ne_of_beq_eq_false rfl) rfl rfl (Nat.le_of_ble_eq_true rfl) (Nat.le_of_ble_eq_true rfl) rfl
theorem eX3_init_20 : WP (MX3_init g) Q (20, [l0, l1], v :: .ref p :: st, w, k, n) = go (w p) 7 fun fs => 2 < fs.length ∧ (narrow (tyX3 2) v = v ∧ fits (tyX3 2) v = true) ∧ WP (MX3_init g) Q (23, [l0, l1], st, upw w p (.inr (7, fs.set 2 v)), k, n) := put_e (q := (RX3, TX3, 7)) rfl dX3_init_20 rfl rfl (tyX3_ok 2 (by decide)) (Or.inr ⟨rfl, rfl⟩)
theorem eX3_init_23 : WP (MX3_init g) Q (23, [some (.ref p), l1], st, w, k, n) = WP (MX3_init g) Q (24, [some (.ref p), l1], .ref p :: st, w, k, n) := Eq.trans (WP_at (M := (MX3_init g)) rfl dX3_init_23 (Or.inr rfl)) rfl
theorem eX3_init_23N : WP (MX3_init g) Q (23, [some .null, l1], st, w, k, n) = WP (MX3_init g) Q (24, [some .null, l1], .null :: st, w, k, n) := Eq.trans (WP_at (M := (MX3_init g)) rfl dX3_init_23 (Or.inr rfl)) rfl
theorem eX3_init_24 : WP (MX3_init g) Q (24, [l0, l1], st, w, k, n) = (k + 1 ≤ 9 ∧ n + 3 ≤ 104 ∧ ∀ q : Nat, rd g w q = none → WP (MX3_init g) Q (27, [l0, l1], .ref q :: st, upw w q (.inr (3, [.int 0, .null, .int 0])), k + 1, n + 3)) := Eq.trans (new_e (M := (MX3_init g)) (fs := [.int 0, .null, .int 0]) rfl dX3_init_24 rfl) rfl
theorem eX3_init_27 : WP (MX3_init g) Q (27, [l0, l1], .int a :: st, w, k, n) = WP (MX3_init g) Q (28, [l0, l1], .int a :: .int a :: st, w, k, n) := by rw [WP_at (M := (MX3_init g)) rfl dX3_init_27 (Or.inr rfl)]; exact and_t rfl
theorem eX3_init_27R : WP (MX3_init g) Q (27, [l0, l1], .ref p :: st, w, k, n) = WP (MX3_init g) Q (28, [l0, l1], .ref p :: .ref p :: st, w, k, n) := by rw [WP_at (M := (MX3_init g)) rfl dX3_init_27 (Or.inr rfl)]; exact and_t rfl
theorem eX3_init_28  : WP (MX3_init g) Q (28, [l0, l1], .ref p :: st, w, k, n) = (wt st ≤ 8 ∧ k + 0 ≤ 9 ∧ n + 0 ≤ 104 ∧ WP (MJx4a65c_init_da8c8 g) (kx (fun v w' => WP (MX3_init g) Q (31, [l0, l1], v.toList ++ st, w', k + 0, n + 0)) (fun E w' => Q (.inr E) w')) (0, [some (.ref p)], [], w, 0, 0)) := csI (M := (MX3_init g)) (mc := (fun _ _ => 0)) (ms := (fun _ _ => 0)) (As := []) (rest := st) (MJx4a65c_init_da8c8 g) rfl rfl dX3_init_28 (Nat.ne_of_beq_eq_false rfl) rfl rfl (Nat.le_of_ble_eq_true rfl) (Nat.le_of_ble_eq_true rfl) rfl
theorem eX3_init_31 : WP (MX3_init g) Q (31, [l0, l1], v :: .ref p :: st, w, k, n) = go (w p) 7 fun fs => 3 < fs.length ∧ (narrow (tyX3 3) v = v ∧ fits (tyX3 3) v = true) ∧ WP (MX3_init g) Q (34, [l0, l1], st, upw w p (.inr (7, fs.set 3 v)), k, n) := put_e (q := (RX3, TX3, 7)) rfl dX3_init_31 rfl rfl (tyX3_ok 3 (by decide)) (Or.inl rfl)
theorem eX3_init_34 : WP (MX3_init g) Q (34, [l0, l1], st, w, k, n) = WP (MX3_init g) Q (35, [l0, l1], .int 0 :: st, w, k, n) := iconst_e rfl dX3_init_34 (by decide)
theorem eX3_init_35 : WP (MX3_init g) Q (35, [l0, l1], .int a :: st, w, k, n) = WP (MX3_init g) Q (36, [nl l0, some (.int a)], st, w, k, n) := by rw [WP_at (M := (MX3_init g)) rfl dX3_init_35 (Or.inr rfl)]; exact and_t (Nat.le_of_ble_eq_true rfl)
theorem eX3_init_36 : WP (MX3_init g) Q (36, [l0, some (.int a)], st, w, k, n) = WP (MX3_init g) Q (37, [l0, some (.int a)], .int a :: st, w, k, n) := Eq.trans (WP_at (M := (MX3_init g)) rfl dX3_init_36 (Or.inr rfl)) rfl
theorem eX3_init_37 : WP (MX3_init g) Q (37, [l0, l1], st, w, k, n) = WP (MX3_init g) Q (39, [l0, l1], .int 6 :: st, w, k, n) := bipush_e rfl dX3_init_37 (by decide)
theorem eX3_init_39 : WP (MX3_init g) Q (39, [l0, l1], .int b :: .int a :: st, w, k, n) = if b ≤ a then WP (MX3_init g) Q (57, [l0, l1], st, w, k, n) else WP (MX3_init g) Q (42, [l0, l1], st, w, k, n) := icm_e (b ≤ a) rfl dX3_init_39 rfl (by decide)
theorem eX3_init_42 : WP (MX3_init g) Q (42, [some (.ref p), l1], st, w, k, n) = WP (MX3_init g) Q (43, [some (.ref p), l1], .ref p :: st, w, k, n) := Eq.trans (WP_at (M := (MX3_init g)) rfl dX3_init_42 (Or.inr rfl)) rfl
theorem eX3_init_42N : WP (MX3_init g) Q (42, [some .null, l1], st, w, k, n) = WP (MX3_init g) Q (43, [some .null, l1], .null :: st, w, k, n) := Eq.trans (WP_at (M := (MX3_init g)) rfl dX3_init_42 (Or.inr rfl)) rfl
theorem eX3_init_43 : WP (MX3_init g) Q (43, [l0, l1], .ref p :: st, w, k, n) = go (rd g w p) 7 fun fs => ∃ v, fs[2]? = some v ∧ WP (MX3_init g) Q (46, [l0, l1], v :: st, w, k, n) := get_e rfl dX3_init_43 rfl
theorem eX3_init_46 : WP (MX3_init g) Q (46, [l0, l1], st, w, k, n) = WP (MX3_init g) Q (47, [l0, l1], .null :: st, w, k, n) := Eq.trans (WP_at (M := (MX3_init g)) rfl dX3_init_46 (Or.inr rfl)) rfl
theorem eX3_init_47R {z0 : Nat} : WP (MX3_init g) Q (47, [l0, l1], .ref z0 :: .ref p :: st, w, k, n) = (go (rd g w p) 3 (fun _ => True) ∧ wt st ≤ 8 ∧ k + 1 ≤ 9 ∧ n + 15 ≤ 104 ∧ WP (MJx4a65c_add_9ea2d g) (kx (fun v w' => WP (MX3_init g) Q (50, [l0, l1], v.toList ++ st, w', k + 1, n + 15)) (fun E w' => Q (.inr E) w')) (0, [some (.ref p), some (.ref z0)], [], w, 0, 0)) := csV (M := (MX3_init g)) (mc := (fun _ _ => 1)) (ms := (fun _ _ => 15)) (As := [.ref z0]) (rest := st) (MJx4a65c_add_9ea2d g) rfl rfl dX3_init_47 (by exact fun h => nomatch (show (none : Option Nat) = some 11 from h)) (by exact fun h => nomatch (show (none : Option Nat) = some 15 from h)) rfl rfl (by decide) (Nat.le_of_ble_eq_true rfl) (Nat.le_of_ble_eq_true rfl) rfl
theorem eX3_init_47N  : WP (MX3_init g) Q (47, [l0, l1], .null :: .ref p :: st, w, k, n) = (go (rd g w p) 3 (fun _ => True) ∧ wt st ≤ 8 ∧ k + 1 ≤ 9 ∧ n + 15 ≤ 104 ∧ WP (MJx4a65c_add_9ea2d g) (kx (fun v w' => WP (MX3_init g) Q (50, [l0, l1], v.toList ++ st, w', k + 1, n + 15)) (fun E w' => Q (.inr E) w')) (0, [some (.ref p), some .null], [], w, 0, 0)) := csV (M := (MX3_init g)) (mc := (fun _ _ => 1)) (ms := (fun _ _ => 15)) (As := [.null]) (rest := st) (MJx4a65c_add_9ea2d g) rfl rfl dX3_init_47 (by exact fun h => nomatch (show (none : Option Nat) = some 11 from h)) (by exact fun h => nomatch (show (none : Option Nat) = some 15 from h)) rfl rfl (by decide) (Nat.le_of_ble_eq_true rfl) (Nat.le_of_ble_eq_true rfl) rfl
theorem eX3_init_50 : WP (MX3_init g) Q (50, [l0, l1], .int a :: st, w, k, n) = WP (MX3_init g) Q (51, [l0, l1], st, w, k, n) := by rw [WP_at (M := (MX3_init g)) rfl dX3_init_50 (Or.inr rfl)]; exact and_t rfl
theorem eX3_init_50R : WP (MX3_init g) Q (50, [l0, l1], .ref p :: st, w, k, n) = WP (MX3_init g) Q (51, [l0, l1], st, w, k, n) := by rw [WP_at (M := (MX3_init g)) rfl dX3_init_50 (Or.inr rfl)]; exact and_t rfl
theorem eX3_init_50N : WP (MX3_init g) Q (50, [l0, l1], .null :: st, w, k, n) = WP (MX3_init g) Q (51, [l0, l1], st, w, k, n) := by rw [WP_at (M := (MX3_init g)) rfl dX3_init_50 (Or.inr rfl)]; exact and_t rfl
theorem eX3_init_51 : WP (MX3_init g) Q (51, [l0, some (.int a)], st, w, k, n) = WP (MX3_init g) Q (54, [nl l0, some (.int (a + 1))], st, w, k, n) := Eq.trans (iinc_e (M := (MX3_init g)) (L := [l0, some (.int a)]) (d := 1) rfl dX3_init_51 (by decide) rfl) rfl
theorem eX3_init_54 : WP (MX3_init g) Q (54, [l0, l1], st, w, k, n) = WP (MX3_init g) Q (36, [l0, l1], st, w, k, n) := goto_e rfl dX3_init_54 (by decide)
theorem eX3_init_57 : WP (MX3_init g) Q (57, [l0, l1], [], w, k, n) = (k ≤ 9 ∧ n ≤ 104 ∧ Q (.inl none) w) := vret_e rfl dX3_init_57 rfl
end
theorem iW_7 : ∀ w ∈ u_ws RX3 TX3 7, w ∈ WS := fun w h => (fun q => WS_in q.1 q.2) ((show ∀ w ∈ u_ws RX3 TX3 7, w ∈ lw_tbl ∧ goodWord w = true by decide +kernel) w h)
theorem wk_1193 : (.fieldLink RX3 9 "RangecardModel" "numbers" "[J" : Jvm.Cond) ∈ WS := WS_at 1193 (by decide +kernel) rfl
theorem vF_RX3_9 : vFld RX3 9 7 1 := ⟨RX3, TX3, 7, tyX3, "RangecardModel", rfl, by decide, iW_7, tyX3_ok, nmX3, Or.inl rfl, Or.inl wk_1193⟩
theorem wk_1194 : (.fieldLink RX3 16 "RangecardModel" "cards" "Ljava/util/ArrayList;" : Jvm.Cond) ∈ WS := WS_at 1194 (by decide +kernel) rfl
theorem vF_RX3_16 : vFld RX3 16 7 2 := ⟨RX3, TX3, 7, tyX3, "RangecardModel", rfl, by decide, iW_7, tyX3_ok, nmX3, Or.inl rfl, Or.inl wk_1194⟩
theorem wk_1195 : (.fieldLink RX3 20 "RangecardModel" "pile" "Ljava/util/ArrayList;" : Jvm.Cond) ∈ WS := WS_at 1195 (by decide +kernel) rfl
theorem vF_RX3_20 : vFld RX3 20 7 3 := ⟨RX3, TX3, 7, tyX3, "RangecardModel", rfl, by decide, iW_7, tyX3_ok, nmX3, Or.inl rfl, Or.inl wk_1195⟩
theorem wk_1120 : (.classLink RX3 13 RJx4a65c : Jvm.Cond) ∈ WS := WS_at 1120 (by decide +kernel) rfl
theorem wk_1121 : (.instantiable RJx4a65c 3 : Jvm.Cond) ∈ WS := WS_at 1121 (by decide +kernel) rfl
theorem vN_RX3_13 : vNew RX3 13 3 [.int 0, .null, .int 0] := ⟨RJx4a65c, TJx4a65c, tyJx4a65c, rfl, iW_3, tyJx4a65c_ok, wk_1120, wk_1121, wk_63, fun j hj => by match j, hj with | 0, _ => rfl | 1, _ => rfl | 2, _ => rfl | j + 3, hj => exact absurd hj (Nat.not_lt.mpr (Nat.le_add_left _ _))⟩
theorem wk_1124 : (.code yJx4a65c_init_da8c8 cJx4a65c_init_da8c8 1 (none) : Jvm.Cond) ∈ WS := WS_at 1124 (by decide +kernel) rfl
theorem wk_1122 : (.methodLink RX3 15 yJx4a65c_init_da8c8 : Jvm.Cond) ∈ WS := WS_at 1122 (by decide +kernel) rfl
theorem wk_1123 : (.instanceMethod yJx4a65c_init_da8c8 : Jvm.Cond) ∈ WS := WS_at 1123 (by decide +kernel) rfl
theorem wk_1152 : (.code yJx4a65c_add_9ea2d cJx4a65c_add_9ea2d 2 (some .boolean) : Jvm.Cond) ∈ WS := WS_at 1152 (by decide +kernel) rfl
theorem wk_1149 : (.methodLink RX3 23 yJx4a65c_add_9ea2d : Jvm.Cond) ∈ WS := WS_at 1149 (by decide +kernel) rfl
theorem wk_1150 : (.instanceMethod yJx4a65c_add_9ea2d : Jvm.Cond) ∈ WS := WS_at 1150 (by decide +kernel) rfl
theorem wk_1151 : (.selects RJx4a65c yJx4a65c_add_9ea2d yJx4a65c_add_9ea2d : Jvm.Cond) ∈ WS := WS_at 1151 (by decide +kernel) rfl
theorem wk_1119 : (.methodLink RX3 1 Lib.objectInit : Jvm.Cond) ∈ WS := WS_at 1119 (by decide +kernel) rfl
theorem vMX3_init {l : Launch} (hl : l.stackTraces = false) (G : GT) : vM l G (MX3_init (gg G)) := ⟨fun i c j h => lookup_all (l := (MX3_init (gg G)).fld) (P := fun i e => vFld RX3 i e.1 e.2) (all_c (vF_RX3_9) (all_c (vF_RX3_16) (all_c (vF_RX3_20) (all_n)))) i (c, j) h, fun i c fs h => lookup_all (l := (MX3_init (gg G)).new) (P := fun i e => vNew RX3 i e.1 e.2) (all_c (vN_RX3_13) (all_n)) i (c, fs) h, lookup_all (l := (MX3_init (gg G)).anew) (P := fun i e => vANew RX3 i e) (all_n), lookup_all (l := (MX3_init (gg G)).lng) (P := fun i e => Jvm.Cond.constantLong RX3 i e ∈ WS) (all_n), lookup_all (l := (MX3_init (gg G)).thr) (P := fun i e => vThr RX3 cX3_init i e) (all_n), fun _ => wk_1119, lookup_all (l := (MX3_init (gg G)).cal) (P := fun i e => vCal l G RX3 i e) (all_c (⟨cJx4a65c_init_da8c8, 1, none, fun y hy => by subst hy; exact ⟨by decide, ⟨_, wk_1124, okJx4a65c_init_da8c8 hl, Or.inl ⟨Nat.ne_of_beq_eq_false rfl, rfl⟩⟩, wk_63, ⟨(by decide : yJx4a65c_init_da8c8.cls ≠ "java/lang/invoke/MethodHandle"), (by decide : yJx4a65c_init_da8c8.cls ≠ "java/lang/invoke/VarHandle")⟩, ⟨(by decide +kernel : (parseMethodDescriptor yJx4a65c_init_da8c8.desc).map (fun d => d.parameters.length + 1) = some 1), rfl, wk_1122, wk_1123, rfl⟩⟩⟩) (all_c (⟨cJx4a65c_add_9ea2d, 2, some .boolean, fun y hy => by subst hy; exact ⟨by decide, ⟨_, wk_1152, okJx4a65c_add_9ea2d hl, Or.inl ⟨Nat.ne_of_beq_eq_false rfl, rfl⟩⟩, wk_63, ⟨(by decide : yJx4a65c_add_9ea2d.cls ≠ "java/lang/invoke/MethodHandle"), (by decide : yJx4a65c_add_9ea2d.cls ≠ "java/lang/invoke/VarHandle")⟩, ⟨(by decide +kernel : (parseMethodDescriptor yJx4a65c_add_9ea2d.desc).map (fun d => d.parameters.length + 1) = some 2), wk_1149, wk_1150, wk_1151, (RJx4a65c, TJx4a65c, 3), rfl, rfl⟩⟩⟩) (all_n))), lookup_all (l := (MX3_init (gg G)).stt) (P := fun i e => vStt G RX3 i e) (all_n), lookup_all (l := (MX3_init (gg G)).cst) (P := fun i e => vCst RX3 i e) (all_n), fun h => absurd rfl h, rfl, all_n⟩
theorem okX3_init {l : Launch} (hl : l.stackTraces = false) {G : GT} : ∀ (args : List Value) (w : Hw) (S : Ot → Hw → Prop), spOf (MX3_init (gg G)) args w S → CX l G yX3_init (.code yX3_init cX3_init 2 (none)) 7 9 104 args w S := CX_sp (M := MX3_init (gg G)) (y := yX3_init) hl (by decide) rfl (vMX3_init hl G) (fun h => rfl) rfl
/-! RangecardModel.thrown()I -/
theorem dX3_thrown_0 : decode cX3_thrown 0 = .ok (.aload_n 0, 1) := by decide +kernel
theorem dX3_thrown_1 : decode cX3_thrown 1 = .ok (.getfield 27, 3) := by decide +kernel
theorem dX3_thrown_4 : decode cX3_thrown 4 = .ok (.ireturn, 1) := by decide +kernel
def MX3_thrown (g : RO) : MT := ((RX3, cX3_thrown, 1, 1, 0, 0, false, some .int), [(27, 7, 0)], [], [], [], [], 0, [], [], [], 0, [], [], g)
section
variable {g : RO} {Q : Ot → Hw → Prop} {st : List Value} {w : Hw} {k n p q : Nat} {a b : Int32} {x y : Int64} {u v : Value} {l0 : Option Value}
theorem eX3_thrown_0 : WP (MX3_thrown g) Q (0, [some (.ref p)], st, w, k, n) = WP (MX3_thrown g) Q (1, [some (.ref p)], .ref p :: st, w, k, n) := Eq.trans (WP_at (M := (MX3_thrown g)) rfl dX3_thrown_0 (Or.inr rfl)) rfl
theorem eX3_thrown_0N : WP (MX3_thrown g) Q (0, [some .null], st, w, k, n) = WP (MX3_thrown g) Q (1, [some .null], .null :: st, w, k, n) := Eq.trans (WP_at (M := (MX3_thrown g)) rfl dX3_thrown_0 (Or.inr rfl)) rfl
theorem eX3_thrown_1 : WP (MX3_thrown g) Q (1, [l0], .ref p :: st, w, k, n) = go (rd g w p) 7 fun fs => ∃ v, fs[0]? = some v ∧ WP (MX3_thrown g) Q (4, [l0], v :: st, w, k, n) := get_e rfl dX3_thrown_1 rfl
theorem eX3_thrown_4 : WP (MX3_thrown g) Q (4, [l0], [.int a], w, k, n) = (k ≤ 0 ∧ n ≤ 0 ∧ Q (.inl (some (.int a))) w) := iretI_e rfl dX3_thrown_4 rfl
end
theorem wk_1192 : (.fieldLink RX3 27 "RangecardModel" "thrown" "I" : Jvm.Cond) ∈ WS := WS_at 1192 (by decide +kernel) rfl
theorem vF_RX3_27 : vFld RX3 27 7 0 := ⟨RX3, TX3, 7, tyX3, "RangecardModel", rfl, by decide, iW_7, tyX3_ok, nmX3, Or.inl rfl, Or.inl wk_1192⟩
theorem vMX3_thrown {l : Launch} (hl : l.stackTraces = false) (G : GT) : vM l G (MX3_thrown (gg G)) := ⟨fun i c j h => lookup_all (l := (MX3_thrown (gg G)).fld) (P := fun i e => vFld RX3 i e.1 e.2) (all_c (vF_RX3_27) (all_n)) i (c, j) h, fun i c fs h => lookup_all (l := (MX3_thrown (gg G)).new) (P := fun i e => vNew RX3 i e.1 e.2) (all_n) i (c, fs) h, lookup_all (l := (MX3_thrown (gg G)).anew) (P := fun i e => vANew RX3 i e) (all_n), lookup_all (l := (MX3_thrown (gg G)).lng) (P := fun i e => Jvm.Cond.constantLong RX3 i e ∈ WS) (all_n), lookup_all (l := (MX3_thrown (gg G)).thr) (P := fun i e => vThr RX3 cX3_thrown i e) (all_n), fun h => absurd rfl h, lookup_all (l := (MX3_thrown (gg G)).cal) (P := fun i e => vCal l G RX3 i e) (all_n), lookup_all (l := (MX3_thrown (gg G)).stt) (P := fun i e => vStt G RX3 i e) (all_n), lookup_all (l := (MX3_thrown (gg G)).cst) (P := fun i e => vCst RX3 i e) (all_n), fun h => absurd rfl h, rfl, all_n⟩
theorem okX3_thrown {l : Launch} (hl : l.stackTraces = false) {G : GT} : ∀ (args : List Value) (w : Hw) (S : Ot → Hw → Prop), spOf (MX3_thrown (gg G)) args w S → CX l G yX3_thrown (.code yX3_thrown cX3_thrown 1 (some .int)) 1 0 0 args w S := CX_sp (M := MX3_thrown (gg G)) (y := yX3_thrown) hl (by decide) rfl (vMX3_thrown hl G) (fun h => by cases h) rfl
/-! RangecardModel.isIn(III)Z -/
theorem dX3_isIn_0 : decode cX3_isIn 0 = .ok (.iload_n 0, 1) := by decide +kernel
theorem dX3_isIn_1 : decode cX3_isIn 1 = .ok (.iload_n 1, 1) := by decide +kernel
theorem dX3_isIn_2 : decode cX3_isIn 2 = .ok (.if_icmp .lt 12, 3) := by decide +kernel
theorem dX3_isIn_5 : decode cX3_isIn 5 = .ok (.iload_n 0, 1) := by decide +kernel
theorem dX3_isIn_6 : decode cX3_isIn 6 = .ok (.iload_n 2, 1) := by decide +kernel
theorem dX3_isIn_7 : decode cX3_isIn 7 = .ok (.if_icmp .gt 7, 3) := by decide +kernel
theorem dX3_isIn_10 : decode cX3_isIn 10 = .ok (.iconst 1, 1) := by decide +kernel
theorem dX3_isIn_11 : decode cX3_isIn 11 = .ok (.goto 4, 3) := by decide +kernel
theorem dX3_isIn_14 : decode cX3_isIn 14 = .ok (.iconst 0, 1) := by decide +kernel
theorem dX3_isIn_15 : decode cX3_isIn 15 = .ok (.ireturn, 1) := by decide +kernel
def MX3_isIn (g : RO) : MT := ((RX3, cX3_isIn, 3, 1, 0, 0, false, some .boolean), [], [], [], [], [], 0, [], [], [], 0, [], [], g)
section
variable {g : RO} {Q : Ot → Hw → Prop} {st : List Value} {w : Hw} {k n p q : Nat} {a b : Int32} {x y : Int64} {u v : Value} {l0 l1 l2 : Option Value}
theorem eX3_isIn_0 : WP (MX3_isIn g) Q (0, [some (.int a), l1, l2], st, w, k, n) = WP (MX3_isIn g) Q (1, [some (.int a), l1, l2], .int a :: st, w, k, n) := Eq.trans (WP_at (M := (MX3_isIn g)) rfl dX3_isIn_0 (Or.inr rfl)) rfl
theorem eX3_isIn_1 : WP (MX3_isIn g) Q (1, [l0, some (.int a), l2], st, w, k, n) = WP (MX3_isIn g) Q (2, [l0, some (.int a), l2], .int a :: st, w, k, n) := Eq.trans (WP_at (M := (MX3_isIn g)) rfl dX3_isIn_1 (Or.inr rfl)) rfl
theorem eX3_isIn_2 : WP (MX3_isIn g) Q (2, [l0, l1, l2], .int b :: .int a :: st, w, k, n) = if a < b then WP (MX3_isIn g) Q (14, [l0, l1, l2], st, w, k, n) else WP (MX3_isIn g) Q (5, [l0, l1, l2], st, w, k, n) := icm_e (a < b) rfl dX3_isIn_2 rfl (by decide)
theorem eX3_isIn_5 : WP (MX3_isIn g) Q (5, [some (.int a), l1, l2], st, w, k, n) = WP (MX3_isIn g) Q (6, [some (.int a), l1, l2], .int a :: st, w, k, n) := Eq.trans (WP_at (M := (MX3_isIn g)) rfl dX3_isIn_5 (Or.inr rfl)) rfl
theorem eX3_isIn_6 : WP (MX3_isIn g) Q (6, [l0, l1, some (.int a)], st, w, k, n) = WP (MX3_isIn g) Q (7, [l0, l1, some (.int a)], .int a :: st, w, k, n) := Eq.trans (WP_at (M := (MX3_isIn g)) rfl dX3_isIn_6 (Or.inr rfl)) rfl
theorem eX3_isIn_7 : WP (MX3_isIn g) Q (7, [l0, l1, l2], .int b :: .int a :: st, w, k, n) = if b < a then WP (MX3_isIn g) Q (14, [l0, l1, l2], st, w, k, n) else WP (MX3_isIn g) Q (10, [l0, l1, l2], st, w, k, n) := icm_e (b < a) rfl dX3_isIn_7 rfl (by decide)
theorem eX3_isIn_10 : WP (MX3_isIn g) Q (10, [l0, l1, l2], st, w, k, n) = WP (MX3_isIn g) Q (11, [l0, l1, l2], .int 1 :: st, w, k, n) := iconst_e rfl dX3_isIn_10 (by decide)
theorem eX3_isIn_11 : WP (MX3_isIn g) Q (11, [l0, l1, l2], st, w, k, n) = WP (MX3_isIn g) Q (15, [l0, l1, l2], st, w, k, n) := goto_e rfl dX3_isIn_11 (by decide)
theorem eX3_isIn_14 : WP (MX3_isIn g) Q (14, [l0, l1, l2], st, w, k, n) = WP (MX3_isIn g) Q (15, [l0, l1, l2], .int 0 :: st, w, k, n) := iconst_e rfl dX3_isIn_14 (by decide)
theorem eX3_isIn_15 : WP (MX3_isIn g) Q (15, [l0, l1, l2], [.int a], w, k, n) = (narrow (.boolean) (.int a) = .int a ∧ k ≤ 0 ∧ n ≤ 0 ∧ Q (.inl (some (.int a))) w) := iret_e rfl dX3_isIn_15 rfl
end
theorem vMX3_isIn {l : Launch} (hl : l.stackTraces = false) (G : GT) : vM l G (MX3_isIn (gg G)) := ⟨fun i c j h => lookup_all (l := (MX3_isIn (gg G)).fld) (P := fun i e => vFld RX3 i e.1 e.2) (all_n) i (c, j) h, fun i c fs h => lookup_all (l := (MX3_isIn (gg G)).new) (P := fun i e => vNew RX3 i e.1 e.2) (all_n) i (c, fs) h, lookup_all (l := (MX3_isIn (gg G)).anew) (P := fun i e => vANew RX3 i e) (all_n), lookup_all (l := (MX3_isIn (gg G)).lng) (P := fun i e => Jvm.Cond.constantLong RX3 i e ∈ WS) (all_n), lookup_all (l := (MX3_isIn (gg G)).thr) (P := fun i e => vThr RX3 cX3_isIn i e) (all_n), fun h => absurd rfl h, lookup_all (l := (MX3_isIn (gg G)).cal) (P := fun i e => vCal l G RX3 i e) (all_n), lookup_all (l := (MX3_isIn (gg G)).stt) (P := fun i e => vStt G RX3 i e) (all_n), lookup_all (l := (MX3_isIn (gg G)).cst) (P := fun i e => vCst RX3 i e) (all_n), fun h => absurd rfl h, rfl, all_n⟩
theorem okX3_isIn {l : Launch} (hl : l.stackTraces = false) {G : GT} : ∀ (args : List Value) (w : Hw) (S : Ot → Hw → Prop), spOf (MX3_isIn (gg G)) args w S → CX l G yX3_isIn (.code yX3_isIn cX3_isIn 3 (some .boolean)) 1 0 0 args w S := CX_sp (M := MX3_isIn (gg G)) (y := yX3_isIn) hl (by decide) rfl (vMX3_isIn hl G) (fun h => by cases h) rfl
/-! RangecardModel.one(Z)I -/
theorem dX3_one_0 : decode cX3_one 0 = .ok (.iload_n 0, 1) := by decide +kernel
theorem dX3_one_1 : decode cX3_one 1 = .ok (.ifCond .eq 7, 3) := by decide +kernel
theorem dX3_one_4 : decode cX3_one 4 = .ok (.iconst 1, 1) := by decide +kernel
theorem dX3_one_5 : decode cX3_one 5 = .ok (.goto 4, 3) := by decide +kernel
theorem dX3_one_8 : decode cX3_one 8 = .ok (.iconst 0, 1) := by decide +kernel
theorem dX3_one_9 : decode cX3_one 9 = .ok (.ireturn, 1) := by decide +kernel
def MX3_one (g : RO) : MT := ((RX3, cX3_one, 1, 1, 0, 0, false, some .int), [], [], [], [], [], 0, [], [], [], 0, [], [], g)
section
variable {g : RO} {Q : Ot → Hw → Prop} {st : List Value} {w : Hw} {k n p q : Nat} {a b : Int32} {x y : Int64} {u v : Value} {l0 : Option Value}
theorem eX3_one_0 : WP (MX3_one g) Q (0, [some (.int a)], st, w, k, n) = WP (MX3_one g) Q (1, [some (.int a)], .int a :: st, w, k, n) := Eq.trans (WP_at (M := (MX3_one g)) rfl dX3_one_0 (Or.inr rfl)) rfl
theorem eX3_one_1 : WP (MX3_one g) Q (1, [l0], .int a :: st, w, k, n) = if a = 0 then WP (MX3_one g) Q (8, [l0], st, w, k, n) else WP (MX3_one g) Q (4, [l0], st, w, k, n) := ifc_e (a = 0) rfl dX3_one_1 rfl (by decide)
theorem eX3_one_4 : WP (MX3_one g) Q (4, [l0], st, w, k, n) = WP (MX3_one g) Q (5, [l0], .int 1 :: st, w, k, n) := iconst_e rfl dX3_one_4 (by decide)
theorem eX3_one_5 : WP (MX3_one g) Q (5, [l0], st, w, k, n) = WP (MX3_one g) Q (9, [l0], st, w, k, n) := goto_e rfl dX3_one_5 (by decide)
theorem eX3_one_8 : WP (MX3_one g) Q (8, [l0], st, w, k, n) = WP (MX3_one g) Q (9, [l0], .int 0 :: st, w, k, n) := iconst_e rfl dX3_one_8 (by decide)
theorem eX3_one_9 : WP (MX3_one g) Q (9, [l0], [.int a], w, k, n) = (k ≤ 0 ∧ n ≤ 0 ∧ Q (.inl (some (.int a))) w) := iretI_e rfl dX3_one_9 rfl
end
theorem vMX3_one {l : Launch} (hl : l.stackTraces = false) (G : GT) : vM l G (MX3_one (gg G)) := ⟨fun i c j h => lookup_all (l := (MX3_one (gg G)).fld) (P := fun i e => vFld RX3 i e.1 e.2) (all_n) i (c, j) h, fun i c fs h => lookup_all (l := (MX3_one (gg G)).new) (P := fun i e => vNew RX3 i e.1 e.2) (all_n) i (c, fs) h, lookup_all (l := (MX3_one (gg G)).anew) (P := fun i e => vANew RX3 i e) (all_n), lookup_all (l := (MX3_one (gg G)).lng) (P := fun i e => Jvm.Cond.constantLong RX3 i e ∈ WS) (all_n), lookup_all (l := (MX3_one (gg G)).thr) (P := fun i e => vThr RX3 cX3_one i e) (all_n), fun h => absurd rfl h, lookup_all (l := (MX3_one (gg G)).cal) (P := fun i e => vCal l G RX3 i e) (all_n), lookup_all (l := (MX3_one (gg G)).stt) (P := fun i e => vStt G RX3 i e) (all_n), lookup_all (l := (MX3_one (gg G)).cst) (P := fun i e => vCst RX3 i e) (all_n), fun h => absurd rfl h, rfl, all_n⟩
theorem okX3_one {l : Launch} (hl : l.stackTraces = false) {G : GT} : ∀ (args : List Value) (w : Hw) (S : Ot → Hw → Prop), spOf (MX3_one (gg G)) args w S → CX l G yX3_one (.code yX3_one cX3_one 1 (some .int)) 1 0 0 args w S := CX_sp (M := MX3_one (gg G)) (y := yX3_one) hl (by decide) rfl (vMX3_one hl G) (fun h => by cases h) rfl
/-! RangecardModel.refuse(ZI)Z -/
theorem dX3_refuse_0 : decode cX3_refuse 0 = .ok (.iload_n 1, 1) := by decide +kernel
theorem dX3_refuse_1 : decode cX3_refuse 1 = .ok (.ifCond .eq 15, 3) := by decide +kernel
theorem dX3_refuse_4 : decode cX3_refuse 4 = .ok (.aload_n 0, 1) := by decide +kernel
theorem dX3_refuse_5 : decode cX3_refuse 5 = .ok (.getfield 27, 3) := by decide +kernel
theorem dX3_refuse_8 : decode cX3_refuse 8 = .ok (.ifCond .ne 8, 3) := by decide +kernel
theorem dX3_refuse_11 : decode cX3_refuse 11 = .ok (.aload_n 0, 1) := by decide +kernel
theorem dX3_refuse_12 : decode cX3_refuse 12 = .ok (.iload_n 2, 1) := by decide +kernel
theorem dX3_refuse_13 : decode cX3_refuse 13 = .ok (.putfield 27, 3) := by decide +kernel
theorem dX3_refuse_16 : decode cX3_refuse 16 = .ok (.aload_n 0, 1) := by decide +kernel
theorem dX3_refuse_17 : decode cX3_refuse 17 = .ok (.getfield 27, 3) := by decide +kernel
theorem dX3_refuse_20 : decode cX3_refuse 20 = .ok (.ifCond .le 7, 3) := by decide +kernel
theorem dX3_refuse_23 : decode cX3_refuse 23 = .ok (.iconst 1, 1) := by decide +kernel
theorem dX3_refuse_24 : decode cX3_refuse 24 = .ok (.goto 4, 3) := by decide +kernel
theorem dX3_refuse_27 : decode cX3_refuse 27 = .ok (.iconst 0, 1) := by decide +kernel
theorem dX3_refuse_28 : decode cX3_refuse 28 = .ok (.ireturn, 1) := by decide +kernel
def MX3_refuse (g : RO) : MT := ((RX3, cX3_refuse, 3, 1, 0, 0, false, some .boolean), [(27, 7, 0)], [], [], [], [], 0, [], [], [], 0, [], [], g)
section
variable {g : RO} {Q : Ot → Hw → Prop} {st : List Value} {w : Hw} {k n p q : Nat} {a b : Int32} {x y : Int64} {u v : Value} {l0 l1 l2 : Option Value}
theorem eX3_refuse_0 : WP (MX3_refuse g) Q (0, [l0, some (.int a), l2], st, w, k, n) = WP (MX3_refuse g) Q (1, [l0, some (.int a), l2], .int a :: st, w, k, n) := Eq.trans (WP_at (M := (MX3_refuse g)) rfl dX3_refuse_0 (Or.inr rfl)) rfl
theorem eX3_refuse_1 : WP (MX3_refuse g) Q (1, [l0, l1, l2], .int a :: st, w, k, n) = if a = 0 then WP (MX3_refuse g) Q (16, [l0, l1, l2], st, w, k, n) else WP (MX3_refuse g) Q (4, [l0, l1, l2], st, w, k, n) := ifc_e (a = 0) rfl dX3_refuse_1 rfl (by decide)
theorem eX3_refuse_4 : WP (MX3_refuse g) Q (4, [some (.ref p), l1, l2], st, w, k, n) = WP (MX3_refuse g) Q (5, [some (.ref p), l1, l2], .ref p :: st, w, k, n) := Eq.trans (WP_at (M := (MX3_refuse g)) rfl dX3_refuse_4 (Or.inr rfl)) rfl
theorem eX3_refuse_4N : WP (MX3_refuse g) Q (4, [some .null, l1, l2], st, w, k, n) = WP (MX3_refuse g) Q (5, [some .null, l1, l2], .null :: st, w, k, n) := Eq.trans (WP_at (M := (MX3_refuse g)) rfl dX3_refuse_4 (Or.inr rfl)) rfl
theorem eX3_refuse_5 : WP (MX3_refuse g) Q (5, [l0, l1, l2], .ref p :: st, w, k, n) = go (rd g w p) 7 fun fs => ∃ v, fs[0]? = some v ∧ WP (MX3_refuse g) Q (8, [l0, l1, l2], v :: st, w, k, n) := get_e rfl dX3_refuse_5 rfl
theorem eX3_refuse_8 : WP (MX3_refuse g) Q (8, [l0, l1, l2], .int a :: st, w, k, n) = if a = 0 then WP (MX3_refuse g) Q (11, [l0, l1, l2], st, w, k, n) else WP (MX3_refuse g) Q (16, [l0, l1, l2], st, w, k, n) := ifcn_e (a = 0) rfl dX3_refuse_8 rfl (by decide)
theorem eX3_refuse_11 : WP (MX3_refuse g) Q (11, [some (.ref p), l1, l2], st, w, k, n) = WP (MX3_refuse g) Q (12, [some (.ref p), l1, l2], .ref p :: st, w, k, n) := Eq.trans (WP_at (M := (MX3_refuse g)) rfl dX3_refuse_11 (Or.inr rfl)) rfl
theorem eX3_refuse_11N : WP (MX3_refuse g) Q (11, [some .null, l1, l2], st, w, k, n) = WP (MX3_refuse g) Q (12, [some .null, l1, l2], .null :: st, w, k, n) := Eq.trans (WP_at (M := (MX3_refuse g)) rfl dX3_refuse_11 (Or.inr rfl)) rfl
theorem eX3_refuse_12 : WP (MX3_refuse g) Q (12, [l0, l1, some (.int a)], st, w, k, n) = WP (MX3_refuse g) Q (13, [l0, l1, some (.int a)], .int a :: st, w, k, n) := Eq.trans (WP_at (M := (MX3_refuse g)) rfl dX3_refuse_12 (Or.inr rfl)) rfl
theorem eX3_refuse_13 : WP (MX3_refuse g) Q (13, [l0, l1, l2], v :: .ref p :: st, w, k, n) = go (w p) 7 fun fs => 0 < fs.length ∧ (narrow (.int) v = v ∧ fits (.int) v = true) ∧ WP (MX3_refuse g) Q (16, [l0, l1, l2], st, upw w p (.inr (7, fs.set 0 v)), k, n) := put_e (q := (RX3, TX3, 7)) rfl dX3_refuse_13 rfl rfl (tyX3_ok 0 (by decide)) (Or.inl rfl)
theorem eX3_refuse_16 : WP (MX3_refuse g) Q (16, [some (.ref p), l1, l2], st, w, k, n) = WP (MX3_refuse g) Q (17, [some (.ref p), l1, l2], .ref p :: st, w, k, n) := Eq.trans (WP_at (M := (MX3_refuse g)) rfl dX3_refuse_16 (Or.inr rfl)) rfl
theorem eX3_refuse_16N : WP (MX3_refuse g) Q (16, [some .null, l1, l2], st, w, k, n) = WP (MX3_refuse g) Q (17, [some .null, l1, l2], .null :: st, w, k, n) := Eq.trans (WP_at (M := (MX3_refuse g)) rfl dX3_refuse_16 (Or.inr rfl)) rfl
theorem eX3_refuse_17 : WP (MX3_refuse g) Q (17, [l0, l1, l2], .ref p :: st, w, k, n) = go (rd g w p) 7 fun fs => ∃ v, fs[0]? = some v ∧ WP (MX3_refuse g) Q (20, [l0, l1, l2], v :: st, w, k, n) := get_e rfl dX3_refuse_17 rfl
theorem eX3_refuse_20 : WP (MX3_refuse g) Q (20, [l0, l1, l2], .int a :: st, w, k, n) = if a ≤ 0 then WP (MX3_refuse g) Q (27, [l0, l1, l2], st, w, k, n) else WP (MX3_refuse g) Q (23, [l0, l1, l2], st, w, k, n) := ifc_e (a ≤ 0) rfl dX3_refuse_20 rfl (by decide)
theorem eX3_refuse_23 : WP (MX3_refuse g) Q (23, [l0, l1, l2], st, w, k, n) = WP (MX3_refuse g) Q (24, [l0, l1, l2], .int 1 :: st, w, k, n) := iconst_e rfl dX3_refuse_23 (by decide)
theorem eX3_refuse_24 : WP (MX3_refuse g) Q (24, [l0, l1, l2], st, w, k, n) = WP (MX3_refuse g) Q (28, [l0, l1, l2], st, w, k, n) := goto_e rfl dX3_refuse_24 (by decide)
theorem eX3_refuse_27 : WP (MX3_refuse g) Q (27, [l0, l1, l2], st, w, k, n) = WP (MX3_refuse g) Q (28, [l0, l1, l2], .int 0 :: st, w, k, n) := iconst_e rfl dX3_refuse_27 (by decide)
theorem eX3_refuse_28 : WP (MX3_refuse g) Q (28, [l0, l1, l2], [.int a], w, k, n) = (narrow (.boolean) (.int a) = .int a ∧ k ≤ 0 ∧ n ≤ 0 ∧ Q (.inl (some (.int a))) w) := iret_e rfl dX3_refuse_28 rfl
end
theorem vMX3_refuse {l : Launch} (hl : l.stackTraces = false) (G : GT) : vM l G (MX3_refuse (gg G)) := ⟨fun i c j h => lookup_all (l := (MX3_refuse (gg G)).fld) (P := fun i e => vFld RX3 i e.1 e.2) (all_c (vF_RX3_27) (all_n)) i (c, j) h, fun i c fs h => lookup_all (l := (MX3_refuse (gg G)).new) (P := fun i e => vNew RX3 i e.1 e.2) (all_n) i (c, fs) h, lookup_all (l := (MX3_refuse (gg G)).anew) (P := fun i e => vANew RX3 i e) (all_n), lookup_all (l := (MX3_refuse (gg G)).lng) (P := fun i e => Jvm.Cond.constantLong RX3 i e ∈ WS) (all_n), lookup_all (l := (MX3_refuse (gg G)).thr) (P := fun i e => vThr RX3 cX3_refuse i e) (all_n), fun h => absurd rfl h, lookup_all (l := (MX3_refuse (gg G)).cal) (P := fun i e => vCal l G RX3 i e) (all_n), lookup_all (l := (MX3_refuse (gg G)).stt) (P := fun i e => vStt G RX3 i e) (all_n), lookup_all (l := (MX3_refuse (gg G)).cst) (P := fun i e => vCst RX3 i e) (all_n), fun h => absurd rfl h, rfl, all_n⟩
theorem okX3_refuse {l : Launch} (hl : l.stackTraces = false) {G : GT} : ∀ (args : List Value) (w : Hw) (S : Ot → Hw → Prop), spOf (MX3_refuse (gg G)) args w S → CX l G yX3_refuse (.code yX3_refuse cX3_refuse 3 (some .boolean)) 1 0 0 args w S := CX_sp (M := MX3_refuse (gg G)) (y := yX3_refuse) hl (by decide) rfl (vMX3_refuse hl G) (fun h => by cases h) rfl
/-! RangecardModel.start(ZI)Z -/
theorem dX3_start_0 : decode cX3_start 0 = .ok (.aload_n 0, 1) := by decide +kernel
theorem dX3_start_1 : decode cX3_start 1 = .ok (.iconst 0, 1) := by decide +kernel
theorem dX3_start_2 : decode cX3_start 2 = .ok (.putfield 27, 3) := by decide +kernel
theorem dX3_start_5 : decode cX3_start 5 = .ok (.aload_n 0, 1) := by decide +kernel
theorem dX3_start_6 : decode cX3_start 6 = .ok (.iload_n 1, 1) := by decide +kernel
theorem dX3_start_7 : decode cX3_start 7 = .ok (.iload_n 2, 1) := by decide +kernel
theorem dX3_start_8 : decode cX3_start 8 = .ok (.invokevirtual 31, 3) := by decide +kernel
theorem dX3_start_11 : decode cX3_start 11 = .ok (.ireturn, 1) := by decide +kernel
def MX3_start (g : RO) : MT := ((RX3, cX3_start, 3, 2, 0, 0, false, some .boolean), [(27, 7, 0)], [], [], [], [], 0, [(31, 2, 3, 7, 1, (fun _ _ => 0), (fun _ _ => 0), yX3_refuse, spOf (MX3_refuse g))], [], [], 0, [], [], g)
section
variable {g : RO} {Q : Ot → Hw → Prop} {st : List Value} {w : Hw} {k n p q : Nat} {a b : Int32} {x y : Int64} {u v : Value} {l0 l1 l2 : Option Value}
theorem eX3_start_0 : WP (MX3_start g) Q (0, [some (.ref p), l1, l2], st, w, k, n) = WP (MX3_start g) Q (1, [some (.ref p), l1, l2], .ref p :: st, w, k, n) := Eq.trans (WP_at (M := (MX3_start g)) rfl dX3_start_0 (Or.inr rfl)) rfl
theorem eX3_start_0N : WP (MX3_start g) Q (0, [some .null, l1, l2], st, w, k, n) = WP (MX3_start g) Q (1, [some .null, l1, l2], .null :: st, w, k, n) := Eq.trans (WP_at (M := (MX3_start g)) rfl dX3_start_0 (Or.inr rfl)) rfl
theorem eX3_start_1 : WP (MX3_start g) Q (1, [l0, l1, l2], st, w, k, n) = WP (MX3_start g) Q (2, [l0, l1, l2], .int 0 :: st, w, k, n) := iconst_e rfl dX3_start_1 (by decide)
theorem eX3_start_2 : WP (MX3_start g) Q (2, [l0, l1, l2], v :: .ref p :: st, w, k, n) = go (w p) 7 fun fs => 0 < fs.length ∧ (narrow (.int) v = v ∧ fits (.int) v = true) ∧ WP (MX3_start g) Q (5, [l0, l1, l2], st, upw w p (.inr (7, fs.set 0 v)), k, n) := put_e (q := (RX3, TX3, 7)) rfl dX3_start_2 rfl rfl (tyX3_ok 0 (by decide)) (Or.inl rfl)
theorem eX3_start_5 : WP (MX3_start g) Q (5, [some (.ref p), l1, l2], st, w, k, n) = WP (MX3_start g) Q (6, [some (.ref p), l1, l2], .ref p :: st, w, k, n) := Eq.trans (WP_at (M := (MX3_start g)) rfl dX3_start_5 (Or.inr rfl)) rfl
theorem eX3_start_5N : WP (MX3_start g) Q (5, [some .null, l1, l2], st, w, k, n) = WP (MX3_start g) Q (6, [some .null, l1, l2], .null :: st, w, k, n) := Eq.trans (WP_at (M := (MX3_start g)) rfl dX3_start_5 (Or.inr rfl)) rfl
theorem eX3_start_6 : WP (MX3_start g) Q (6, [l0, some (.int a), l2], st, w, k, n) = WP (MX3_start g) Q (7, [l0, some (.int a), l2], .int a :: st, w, k, n) := Eq.trans (WP_at (M := (MX3_start g)) rfl dX3_start_6 (Or.inr rfl)) rfl
theorem eX3_start_7 : WP (MX3_start g) Q (7, [l0, l1, some (.int a)], st, w, k, n) = WP (MX3_start g) Q (8, [l0, l1, some (.int a)], .int a :: st, w, k, n) := Eq.trans (WP_at (M := (MX3_start g)) rfl dX3_start_7 (Or.inr rfl)) rfl
theorem eX3_start_8 {z0 : Int32} {z1 : Int32} : WP (MX3_start g) Q (8, [l0, l1, l2], .int z1 :: .int z0 :: .ref p :: st, w, k, n) = (go (rd g w p) 7 (fun _ => True) ∧ wt st ≤ 8 ∧ k + 0 ≤ 0 ∧ n + 0 ≤ 0 ∧ WP (MX3_refuse g) (kx (fun v w' => WP (MX3_start g) Q (11, [l0, l1, l2], v.toList ++ st, w', k + 0, n + 0)) (fun E w' => Q (.inr E) w')) (0, [some (.ref p), some (.int z0), some (.int z1)], [], w, 0, 0)) := csV (M := (MX3_start g)) (mc := (fun _ _ => 0)) (ms := (fun _ _ => 0)) (As := [.int z0, .int z1]) (rest := st) (MX3_refuse g) rfl rfl dX3_start_8 (by exact fun h => nomatch (show (none : Option Nat) = some 11 from h)) (by exact fun h => nomatch (show (none : Option Nat) = some 15 from h)) rfl rfl (by decide) (Nat.le_of_ble_eq_true rfl) (Nat.le_of_ble_eq_true rfl) rfl
theorem eX3_start_11 : WP (MX3_start g) Q (11, [l0, l1, l2], [.int a], w, k, n) = (narrow (.boolean) (.int a) = .int a ∧ k ≤ 0 ∧ n ≤ 0 ∧ Q (.inl (some (.int a))) w) := iret_e rfl dX3_start_11 rfl
end
theorem wk_1235 : (.code yX3_refuse cX3_refuse 3 (some .boolean) : Jvm.Cond) ∈ WS := WS_at 1235 (by decide +kernel) rfl
theorem wk_60 : (.initialized RX3 : Jvm.Cond) ∈ WS := WS_at 60 (by decide +kernel) rfl
theorem wk_1232 : (.methodLink RX3 31 yX3_refuse : Jvm.Cond) ∈ WS := WS_at 1232 (by decide +kernel) rfl
theorem wk_1234 : (.instanceMethod yX3_refuse : Jvm.Cond) ∈ WS := WS_at 1234 (by decide +kernel) rfl
theorem wk_38 : (.selects RX3 yX3_refuse yX3_refuse : Jvm.Cond) ∈ WS := WS_at 38 (by decide +kernel) rfl
theorem vMX3_start {l : Launch} (hl : l.stackTraces = false) (G : GT) : vM l G (MX3_start (gg G)) := ⟨fun i c j h => lookup_all (l := (MX3_start (gg G)).fld) (P := fun i e => vFld RX3 i e.1 e.2) (all_c (vF_RX3_27) (all_n)) i (c, j) h, fun i c fs h => lookup_all (l := (MX3_start (gg G)).new) (P := fun i e => vNew RX3 i e.1 e.2) (all_n) i (c, fs) h, lookup_all (l := (MX3_start (gg G)).anew) (P := fun i e => vANew RX3 i e) (all_n), lookup_all (l := (MX3_start (gg G)).lng) (P := fun i e => Jvm.Cond.constantLong RX3 i e ∈ WS) (all_n), lookup_all (l := (MX3_start (gg G)).thr) (P := fun i e => vThr RX3 cX3_start i e) (all_n), fun h => absurd rfl h, lookup_all (l := (MX3_start (gg G)).cal) (P := fun i e => vCal l G RX3 i e) (all_c (⟨cX3_refuse, 3, some .boolean, fun y hy => by subst hy; exact ⟨by decide, ⟨_, wk_1235, okX3_refuse hl, Or.inl ⟨Nat.ne_of_beq_eq_false rfl, rfl⟩⟩, wk_60, ⟨(by decide : yX3_refuse.cls ≠ "java/lang/invoke/MethodHandle"), (by decide : yX3_refuse.cls ≠ "java/lang/invoke/VarHandle")⟩, ⟨(by decide +kernel : (parseMethodDescriptor yX3_refuse.desc).map (fun d => d.parameters.length + 1) = some 3), wk_1232, wk_1234, wk_38, (RX3, TX3, 7), rfl, rfl⟩⟩⟩) (all_n)), lookup_all (l := (MX3_start (gg G)).stt) (P := fun i e => vStt G RX3 i e) (all_n), lookup_all (l := (MX3_start (gg G)).cst) (P := fun i e => vCst RX3 i e) (all_n), fun h => absurd rfl h, rfl, all_n⟩
theorem okX3_start {l : Launch} (hl : l.stackTraces = false) {G : GT} : ∀ (args : List Value) (w : Hw) (S : Ot → Hw → Prop), spOf (MX3_start (gg G)) args w S → CX l G yX3_start (.code yX3_start cX3_start 3 (some .boolean)) 2 0 0 args w S := CX_sp (M := MX3_start (gg G)) (y := yX3_start) hl (by decide) rfl (vMX3_start hl G) (fun h => by cases h) rfl
