/-! 40.model11.lean.txt -/
section
theorem qx_cX3_lay_0 : ((cX3_lay.data.toList.drop 0).take 38).map UInt8.toNat = [42, 27, 182, 0, 134, 153, 0, 5, 3, 172, 42, 180, 0, 20, 182, 0, 174, 16, 12, 160, 0, 8, 42, 182, 0, 100, 172, 42, 180, 0, 20, 42, 180, 0, 16, 27, 182, 0] := by decide +kernel
theorem qx_cX3_lay_1 : ((cX3_lay.data.toList.drop 32).take 38).map UInt8.toNat = [180, 0, 16, 27, 182, 0, 42, 192, 0, 125, 182, 0, 23, 87, 42, 180, 0, 20, 182, 0, 174, 172] := by decide +kernel
noncomputable def MX3_lay (g : RO) : MT := ((RX3, cX3_lay, 2, 7, 1, 15, false, some .int), [(20, 7, 3), (16, 7, 2)], [], [], [], [], 0, [(134, 2, 2, 7, 5, (fun _ _ => 0), (fun _ _ => 0), yX3_isNone, spOf (MX3_isNone g)), (174, 2, 1, 3, 1, (fun _ _ => 0), (fun _ _ => 0), yJx4a65c_size_8abf5, spOf (MJx4a65c_size_8abf5 g)), (100, 2, 1, 7, 1, (fun _ _ => 0), (fun _ _ => 0), yX3_no, spOf (MX3_no g)), (42, 2, 2, 3, 3, (fun _ _ => 0), (fun _ _ => 0), yJx4a65c_get_915e3, spOf (MJx4a65c_get_915e3 g)), (23, 2, 2, 3, 6, (fun _ _ => 1), (fun _ _ => 15), yJx4a65c_add_9ea2d, spOf (MJx4a65c_add_9ea2d g))], [], [(125, 0)], 0, [], [], g)
theorem eX3_lay_0 {g : RO} {Q : Ot → Hw → Prop} {w : Hw} {z0 : Int32} {st : List Value} {k n p : Nat} : WP (MX3_lay g) Q (Prod.mk 0 (Prod.mk (List.cons (Option.some (Value.ref p)) (List.cons (Option.some (Value.int z0)) List.nil)) (Prod.mk st (Prod.mk w (Prod.mk k n))))) = (go (rd g w p) 7 (fun _ => True) ∧ wt st ≤ 8 ∧ k + 0 ≤ 1 ∧ n + 0 ≤ 15 ∧ WP (MX3_isNone g) (kx (fun v w' => WP (MX3_lay g) Q (Prod.mk 5 (Prod.mk (List.cons (Option.some (Value.ref p)) (List.cons (Option.some (Value.int z0)) List.nil)) (Prod.mk (v.toList ++ st) (Prod.mk w' (Prod.mk (k + 0) (n + 0))))))) (fun E w' => Q (.inr E) w')) (Prod.mk 0 (Prod.mk (List.cons (Option.some (Value.ref p)) (List.cons (Option.some (Value.int z0)) List.nil)) (Prod.mk List.nil (Prod.mk w (Prod.mk 0 0)))))) := Eq.trans (alnR_e rfl (oy_42 qx_cX3_lay_0 0 rfl) rfl) (Eq.trans (iln_e rfl (oy_27 qx_cX3_lay_0 1 rfl) rfl) (csV0 (M := (MX3_lay g)) (mc := (fun _ _ => 0)) (ms := (fun _ _ => 0)) (As := [.int z0]) (rest := st) (MX3_isNone g) rfl rfl rfl (oy_182 qx_cX3_lay_0 2 0 134 rfl rfl rfl rfl) rfl rfl rfl rfl rfl rfl))
theorem eX3_lay_5 {g : RO} {Q : Ot → Hw → Prop} {st : List Value} {w : Hw} {k n : Nat} {a : Int32} {l0 l1 : Option Value} : WP (MX3_lay g) Q (Prod.mk 5 (Prod.mk (List.cons l0 (List.cons l1 List.nil)) (Prod.mk (List.cons (Value.int a) st) (Prod.mk w (Prod.mk k n))))) = if a = 0 then WP (MX3_lay g) Q (Prod.mk 10 (Prod.mk (List.cons l0 (List.cons l1 List.nil)) (Prod.mk st (Prod.mk w (Prod.mk k n))))) else WP (MX3_lay g) Q (Prod.mk 8 (Prod.mk (List.cons l0 (List.cons l1 List.nil)) (Prod.mk st (Prod.mk w (Prod.mk k n))))) := ifc_e (a = 0) rfl (oy_153 qx_cX3_lay_0 5 0 5 rfl rfl rfl rfl) rfl (by decide)
theorem eX3_lay_8 {g : RO} {Q : Ot → Hw → Prop} {w : Hw} {k n : Nat} {l0 l1 : Option Value} : WP (MX3_lay g) Q (Prod.mk 8 (Prod.mk (List.cons l0 (List.cons l1 List.nil)) (Prod.mk List.nil (Prod.mk w (Prod.mk k n))))) = (k ≤ 1 ∧ n ≤ 15 ∧ Q (.inl (Option.some (Value.int (0 : Int32)))) w) := Eq.trans (ic_0 rfl (oy_3 qx_cX3_lay_0 8 rfl)) (iretI_e rfl (oy_172 qx_cX3_lay_0 9 rfl) rfl)
theorem eX3_lay_10 {g : RO} {Q : Ot → Hw → Prop} {w : Hw} {st : List Value} {k n p : Nat} {l1 : Option Value} : WP (MX3_lay g) Q (Prod.mk 10 (Prod.mk (List.cons (Option.some (Value.ref p)) (List.cons l1 List.nil)) (Prod.mk st (Prod.mk w (Prod.mk k n))))) = go (rd g w p) 7 fun fs => ∃ v, fs[3]? = some v ∧ WP (MX3_lay g) Q (Prod.mk 14 (Prod.mk (List.cons (Option.some (Value.ref p)) (List.cons l1 List.nil)) (Prod.mk (List.cons v st) (Prod.mk w (Prod.mk k n))))) := Eq.trans (alnR_e rfl (oy_42 qx_cX3_lay_0 10 rfl) rfl) (get_e rfl (oy_180 qx_cX3_lay_0 11 0 20 rfl rfl rfl rfl) rfl)
theorem eX3_lay_14 {g : RO} {Q : Ot → Hw → Prop} {st : List Value} {w : Hw} {k n p : Nat} {l0 l1 : Option Value} : WP (MX3_lay g) Q (Prod.mk 14 (Prod.mk (List.cons l0 (List.cons l1 List.nil)) (Prod.mk (List.cons (Value.ref p) st) (Prod.mk w (Prod.mk k n))))) = (go (rd g w p) 3 (fun _ => True) ∧ wt st ≤ 8 ∧ k + 0 ≤ 1 ∧ n + 0 ≤ 15 ∧ WP (MJx4a65c_size_8abf5 g) (kx (fun v w' => WP (MX3_lay g) Q (Prod.mk 17 (Prod.mk (List.cons l0 (List.cons l1 List.nil)) (Prod.mk (v.toList ++ st) (Prod.mk w' (Prod.mk (k + 0) (n + 0))))))) (fun E w' => Q (.inr E) w')) (Prod.mk 0 (Prod.mk (List.cons (Option.some (Value.ref p)) List.nil) (Prod.mk List.nil (Prod.mk w (Prod.mk 0 0)))))) := csV0 (M := (MX3_lay g)) (mc := (fun _ _ => 0)) (ms := (fun _ _ => 0)) (As := []) (rest := st) (MJx4a65c_size_8abf5 g) rfl rfl rfl (oy_182 qx_cX3_lay_0 14 0 174 rfl rfl rfl rfl) rfl rfl rfl rfl rfl rfl
theorem eX3_lay_17 {g : RO} {Q : Ot → Hw → Prop} {st : List Value} {w : Hw} {k n : Nat} {l0 l1 : Option Value} : WP (MX3_lay g) Q (Prod.mk 17 (Prod.mk (List.cons l0 (List.cons l1 List.nil)) (Prod.mk st (Prod.mk w (Prod.mk k n))))) = WP (MX3_lay g) Q (Prod.mk 19 (Prod.mk (List.cons l0 (List.cons l1 List.nil)) (Prod.mk (List.cons (Value.int 12) st) (Prod.mk w (Prod.mk k n))))) := bipush_e rfl (oy_16 qx_cX3_lay_0 17 12 rfl rfl rfl) (by decide)
theorem eX3_lay_19 {g : RO} {Q : Ot → Hw → Prop} {st : List Value} {w : Hw} {k n : Nat} {a b : Int32} {l0 l1 : Option Value} : WP (MX3_lay g) Q (Prod.mk 19 (Prod.mk (List.cons l0 (List.cons l1 List.nil)) (Prod.mk (List.cons (Value.int b) (List.cons (Value.int a) st)) (Prod.mk w (Prod.mk k n))))) = if a = b then WP (MX3_lay g) Q (Prod.mk 22 (Prod.mk (List.cons l0 (List.cons l1 List.nil)) (Prod.mk st (Prod.mk w (Prod.mk k n))))) else WP (MX3_lay g) Q (Prod.mk 27 (Prod.mk (List.cons l0 (List.cons l1 List.nil)) (Prod.mk st (Prod.mk w (Prod.mk k n))))) := icmn_e (a = b) rfl (oy_160 qx_cX3_lay_0 19 0 8 rfl rfl rfl rfl) rfl (by decide)
theorem eX3_lay_22 {g : RO} {Q : Ot → Hw → Prop} {w : Hw} {st : List Value} {k n p : Nat} {l1 : Option Value} : WP (MX3_lay g) Q (Prod.mk 22 (Prod.mk (List.cons (Option.some (Value.ref p)) (List.cons l1 List.nil)) (Prod.mk st (Prod.mk w (Prod.mk k n))))) = (go (rd g w p) 7 (fun _ => True) ∧ wt st ≤ 8 ∧ k + 0 ≤ 1 ∧ n + 0 ≤ 15 ∧ WP (MX3_no g) (kx (fun v w' => WP (MX3_lay g) Q (Prod.mk 26 (Prod.mk (List.cons (Option.some (Value.ref p)) (List.cons l1 List.nil)) (Prod.mk (v.toList ++ st) (Prod.mk w' (Prod.mk (k + 0) (n + 0))))))) (fun E w' => Q (.inr E) w')) (Prod.mk 0 (Prod.mk (List.cons (Option.some (Value.ref p)) List.nil) (Prod.mk List.nil (Prod.mk w (Prod.mk 0 0)))))) := Eq.trans (alnR_e rfl (oy_42 qx_cX3_lay_0 22 rfl) rfl) (csV0 (M := (MX3_lay g)) (mc := (fun _ _ => 0)) (ms := (fun _ _ => 0)) (As := []) (rest := st) (MX3_no g) rfl rfl rfl (oy_182 qx_cX3_lay_0 23 0 100 rfl rfl rfl rfl) rfl rfl rfl rfl rfl rfl)
theorem eX3_lay_26 {g : RO} {Q : Ot → Hw → Prop} {w : Hw} {k n : Nat} {a : Int32} {l0 l1 : Option Value} : WP (MX3_lay g) Q (Prod.mk 26 (Prod.mk (List.cons l0 (List.cons l1 List.nil)) (Prod.mk (List.cons (Value.int a) List.nil) (Prod.mk w (Prod.mk k n))))) = (k ≤ 1 ∧ n ≤ 15 ∧ Q (.inl (Option.some (Value.int a))) w) := iretI_e rfl (oy_172 qx_cX3_lay_0 26 rfl) rfl
theorem eX3_lay_27 {g : RO} {Q : Ot → Hw → Prop} {w : Hw} {st : List Value} {k n p : Nat} {l1 : Option Value} : WP (MX3_lay g) Q (Prod.mk 27 (Prod.mk (List.cons (Option.some (Value.ref p)) (List.cons l1 List.nil)) (Prod.mk st (Prod.mk w (Prod.mk k n))))) = go (rd g w p) 7 fun fs => ∃ v, fs[3]? = some v ∧ WP (MX3_lay g) Q (Prod.mk 31 (Prod.mk (List.cons (Option.some (Value.ref p)) (List.cons l1 List.nil)) (Prod.mk (List.cons v st) (Prod.mk w (Prod.mk k n))))) := Eq.trans (alnR_e rfl (oy_42 qx_cX3_lay_0 27 rfl) rfl) (get_e rfl (oy_180 qx_cX3_lay_0 28 0 20 rfl rfl rfl rfl) rfl)
theorem eX3_lay_31 {g : RO} {Q : Ot → Hw → Prop} {w : Hw} {st : List Value} {k n p : Nat} {l1 : Option Value} : WP (MX3_lay g) Q (Prod.mk 31 (Prod.mk (List.cons (Option.some (Value.ref p)) (List.cons l1 List.nil)) (Prod.mk st (Prod.mk w (Prod.mk k n))))) = go (rd g w p) 7 fun fs => ∃ v, fs[2]? = some v ∧ WP (MX3_lay g) Q (Prod.mk 35 (Prod.mk (List.cons (Option.some (Value.ref p)) (List.cons l1 List.nil)) (Prod.mk (List.cons v st) (Prod.mk w (Prod.mk k n))))) := Eq.trans (alnR_e rfl (oy_42 qx_cX3_lay_0 31 rfl) rfl) (get_e rfl (oy_180 qx_cX3_lay_1 0 0 16 rfl rfl rfl rfl) rfl)
theorem eX3_lay_35 {g : RO} {Q : Ot → Hw → Prop} {st : List Value} {w : Hw} {k n : Nat} {a : Int32} {l0 : Option Value} : WP (MX3_lay g) Q (Prod.mk 35 (Prod.mk (List.cons l0 (List.cons (Option.some (Value.int a)) List.nil)) (Prod.mk st (Prod.mk w (Prod.mk k n))))) = WP (MX3_lay g) Q (Prod.mk 36 (Prod.mk (List.cons l0 (List.cons (Option.some (Value.int a)) List.nil)) (Prod.mk (List.cons (Value.int a) st) (Prod.mk w (Prod.mk k n))))) := iln_e rfl (oy_27 qx_cX3_lay_1 3 rfl) rfl
theorem eX3_lay_36 {g : RO} {Q : Ot → Hw → Prop} {st : List Value} {w : Hw} {k n p : Nat} {l0 l1 : Option Value} {z0 : Int32} : WP (MX3_lay g) Q (Prod.mk 36 (Prod.mk (List.cons l0 (List.cons l1 List.nil)) (Prod.mk (List.cons (Value.int z0) (List.cons (Value.ref p) st)) (Prod.mk w (Prod.mk k n))))) = (go (rd g w p) 3 (fun _ => True) ∧ wt st ≤ 8 ∧ k + 0 ≤ 1 ∧ n + 0 ≤ 15 ∧ WP (MJx4a65c_get_915e3 g) (kx (fun v w' => WP (MX3_lay g) Q (Prod.mk 39 (Prod.mk (List.cons l0 (List.cons l1 List.nil)) (Prod.mk (v.toList ++ st) (Prod.mk w' (Prod.mk (k + 0) (n + 0))))))) (fun E w' => Q (.inr E) w')) (Prod.mk 0 (Prod.mk (List.cons (Option.some (Value.ref p)) (List.cons (Option.some (Value.int z0)) List.nil)) (Prod.mk List.nil (Prod.mk w (Prod.mk 0 0)))))) := csV0 (M := (MX3_lay g)) (mc := (fun _ _ => 0)) (ms := (fun _ _ => 0)) (As := [.int z0]) (rest := st) (MJx4a65c_get_915e3 g) rfl rfl rfl (oy_182 qx_cX3_lay_1 4 0 42 rfl rfl rfl rfl) rfl rfl rfl rfl rfl rfl
theorem eX3_lay_39R {g : RO} {Q : Ot → Hw → Prop} {st : List Value} {w : Hw} {k n p : Nat} {l0 l1 : Option Value} : WP (MX3_lay g) Q (Prod.mk 39 (Prod.mk (List.cons l0 (List.cons l1 List.nil)) (Prod.mk (List.cons (Value.ref p) st) (Prod.mk w (Prod.mk k n))))) = ((∃ x, w p = Option.some (.inl (0, x))) ∧ WP (MX3_lay g) Q (Prod.mk 42 (Prod.mk (List.cons l0 (List.cons l1 List.nil)) (Prod.mk (List.cons (Value.ref p) st) (Prod.mk w (Prod.mk k n)))))) := castR_e rfl (oy_192 qx_cX3_lay_1 7 0 125 rfl rfl rfl rfl) rfl
theorem eX3_lay_42R {g : RO} {Q : Ot → Hw → Prop} {st : List Value} {w : Hw} {k n p : Nat} {l0 l1 : Option Value} {z0 : Nat} : WP (MX3_lay g) Q (Prod.mk 42 (Prod.mk (List.cons l0 (List.cons l1 List.nil)) (Prod.mk (List.cons (Value.ref z0) (List.cons (Value.ref p) st)) (Prod.mk w (Prod.mk k n))))) = (go (rd g w p) 3 (fun _ => True) ∧ wt st ≤ 8 ∧ k + 1 ≤ 1 ∧ n + 15 ≤ 15 ∧ WP (MJx4a65c_add_9ea2d g) (kx (fun v w' => WP (MX3_lay g) Q (Prod.mk 45 (Prod.mk (List.cons l0 (List.cons l1 List.nil)) (Prod.mk (v.toList ++ st) (Prod.mk w' (Prod.mk (k + 1) (n + 15))))))) (fun E w' => Q (.inr E) w')) (Prod.mk 0 (Prod.mk (List.cons (Option.some (Value.ref p)) (List.cons (Option.some (Value.ref z0)) List.nil)) (Prod.mk List.nil (Prod.mk w (Prod.mk 0 0)))))) := csV0 (M := (MX3_lay g)) (mc := (fun _ _ => 1)) (ms := (fun _ _ => 15)) (As := [.ref z0]) (rest := st) (MJx4a65c_add_9ea2d g) rfl rfl rfl (oy_182 qx_cX3_lay_1 10 0 23 rfl rfl rfl rfl) rfl rfl rfl rfl rfl rfl
theorem eX3_lay_45 {g : RO} {Q : Ot → Hw → Prop} {w : Hw} {a : Int32} {st : List Value} {k n p : Nat} {l1 : Option Value} : WP (MX3_lay g) Q (Prod.mk 45 (Prod.mk (List.cons (Option.some (Value.ref p)) (List.cons l1 List.nil)) (Prod.mk (List.cons (Value.int a) st) (Prod.mk w (Prod.mk k n))))) = go (rd g w p) 7 fun fs => ∃ v, fs[3]? = some v ∧ WP (MX3_lay g) Q (Prod.mk 50 (Prod.mk (List.cons (Option.some (Value.ref p)) (List.cons l1 List.nil)) (Prod.mk (List.cons v st) (Prod.mk w (Prod.mk k n))))) := Eq.trans (popI_e rfl (oy_87 qx_cX3_lay_1 13 rfl)) (Eq.trans (alnR_e rfl (oy_42 qx_cX3_lay_1 14 rfl) rfl) (get_e rfl (oy_180 qx_cX3_lay_1 15 0 20 rfl rfl rfl rfl) rfl))
theorem eX3_lay_50 {g : RO} {Q : Ot → Hw → Prop} {st : List Value} {w : Hw} {k n p : Nat} {l0 l1 : Option Value} : WP (MX3_lay g) Q (Prod.mk 50 (Prod.mk (List.cons l0 (List.cons l1 List.nil)) (Prod.mk (List.cons (Value.ref p) st) (Prod.mk w (Prod.mk k n))))) = (go (rd g w p) 3 (fun _ => True) ∧ wt st ≤ 8 ∧ k + 0 ≤ 1 ∧ n + 0 ≤ 15 ∧ WP (MJx4a65c_size_8abf5 g) (kx (fun v w' => WP (MX3_lay g) Q (Prod.mk 53 (Prod.mk (List.cons l0 (List.cons l1 List.nil)) (Prod.mk (v.toList ++ st) (Prod.mk w' (Prod.mk (k + 0) (n + 0))))))) (fun E w' => Q (.inr E) w')) (Prod.mk 0 (Prod.mk (List.cons (Option.some (Value.ref p)) List.nil) (Prod.mk List.nil (Prod.mk w (Prod.mk 0 0)))))) := csV0 (M := (MX3_lay g)) (mc := (fun _ _ => 0)) (ms := (fun _ _ => 0)) (As := []) (rest := st) (MJx4a65c_size_8abf5 g) rfl rfl rfl (oy_182 qx_cX3_lay_1 18 0 174 rfl rfl rfl rfl) rfl rfl rfl rfl rfl rfl
set_option maxRecDepth 20000 in
theorem eX3_lay_53 {g : RO} {Q : Ot → Hw → Prop} {w : Hw} {k n : Nat} {a : Int32} {l0 l1 : Option Value} : WP (MX3_lay g) Q (Prod.mk 53 (Prod.mk (List.cons l0 (List.cons l1 List.nil)) (Prod.mk (List.cons (Value.int a) List.nil) (Prod.mk w (Prod.mk k n))))) = (k ≤ 1 ∧ n ≤ 15 ∧ Q (.inl (Option.some (Value.int a))) w) := iretI_e rfl (oy_172 qx_cX3_lay_1 21 rfl) rfl
theorem wk_1523 : (.code yJx4a65c_size_8abf5 cJx4a65c_size_8abf5 1 (some .int) : Jvm.Cond) ∈ WS := WS_t7 25 (by eq_refl) (by eq_refl)
theorem wk_1520 : (.methodLink RX3 174 yJx4a65c_size_8abf5 : Jvm.Cond) ∈ WS := WS_t7 22 (by eq_refl) (by eq_refl)
theorem wk_1521 : (.instanceMethod yJx4a65c_size_8abf5 : Jvm.Cond) ∈ WS := WS_t7 23 (by eq_refl) (by eq_refl)
theorem wk_1522 : (.selects RJx4a65c yJx4a65c_size_8abf5 yJx4a65c_size_8abf5 : Jvm.Cond) ∈ WS := WS_t7 24 (by eq_refl) (by eq_refl)
theorem kc_68 {l : Launch} (hl : l.stackTraces = false) {G : GT} {own : String} {i : Nat} (hw : Jvm.Cond.methodLink own i yJx4a65c_size_8abf5 ∈ WS) : vCal l G own i (2, 1, 3, 1, (fun _ _ => 0), (fun _ _ => 0), yJx4a65c_size_8abf5, spOf (MJx4a65c_size_8abf5 (gg G))) := ⟨cJx4a65c_size_8abf5, 1, some .int, fun y hy => by subst hy; exact ⟨Nat.le_of_ble_eq_true rfl, ⟨_, wk_1523, okJx4a65c_size_8abf5 hl, Or.inl ⟨Nat.ne_of_beq_eq_false rfl, rfl⟩⟩, wk_63, nc6, ⟨pd22, hw, wk_1521, wk_1522, (RJx4a65c, TJx4a65c, 3), rfl, rfl⟩⟩⟩
theorem vMX3_lay {l : Launch} (hl : l.stackTraces = false) (G : GT) : vM l G (MX3_lay (gg G)) := vM_k RX3 cX3_lay rfl rfl (all_c (vF_RX3_20) (all_c (vF_RX3_16) (all_n))) all_n all_n all_n all_n (fun h => absurd rfl h) (all_c (kc_57 hl wk_1407) (all_c (kc_68 hl wk_1520) (all_c (kc_49 hl wk_1328) (all_c (kc_37 hl wk_1376) (all_c (kc_34 hl wk_1149) (all_n)))))) all_n (all_c (⟨.long, rfl, (fun C h => by cases h), wk_1380⟩) (all_n)) (fun h => absurd rfl h) rfl all_n
theorem okX3_lay {l : Launch} (hl : l.stackTraces = false) {G : GT} : ∀ (args : List Value) (w : Hw) (S : Ot → Hw → Prop), spOf (MX3_lay (gg G)) args w S → CX l G yX3_lay (.code yX3_lay cX3_lay 2 (some .int)) 7 1 15 args w S := CX_sp (M := MX3_lay (gg G)) (y := yX3_lay) hl pn15 rfl (vMX3_lay hl G) (fun h => by cases h) rfl
theorem qx_cX3_seekNow_0 : ((cX3_seekNow.data.toList.drop 0).take 38).map UInt8.toNat = [2, 62, 3, 54, 4, 21, 4, 42, 180, 0, 20, 182, 0, 174, 162, 0, 50, 42, 180, 0, 20, 21, 4, 182, 0, 42, 192, 0, 125, 42, 180, 0, 16, 27, 182, 0, 42, 192] := by decide +kernel
theorem qx_cX3_seekNow_1 : ((cX3_seekNow.data.toList.drop 32).take 38).map UInt8.toNat = [16, 27, 182, 0, 42, 192, 0, 125, 184, 0, 126, 153, 0, 15, 28, 154, 0, 8, 29, 2, 160, 0, 6, 21, 4, 62, 132, 4, 1, 167, 255, 200, 29, 172] := by decide +kernel
theorem qx_cX3_seekNow_2 : ((cX3_seekNow.data.toList.drop 64).take 38).map UInt8.toNat = [29, 172] := by decide +kernel
noncomputable def MX3_seekNow (g : RO) : MT := ((RX3, cX3_seekNow, 5, 4, 0, 0, false, some .int), [(20, 7, 3), (16, 7, 2)], [], [], [], [], 0, [(174, 2, 1, 3, 1, (fun _ _ => 0), (fun _ _ => 0), yJx4a65c_size_8abf5, spOf (MJx4a65c_size_8abf5 g)), (42, 2, 2, 3, 3, (fun _ _ => 0), (fun _ _ => 0), yJx4a65c_get_915e3, spOf (MJx4a65c_get_915e3 g)), (126, 0, 2, 0, 1, (fun _ _ => 0), (fun _ _ => 0), yX3_same, spOf (MX3_same g))], [], [(125, 0)], 0, [], [], g)
theorem eX3_seekNow_0 {g : RO} {Q : Ot → Hw → Prop} {w : Hw} {st : List Value} {k n : Nat} {l0 l1 l2 l3 l4 : Option Value} : WP (MX3_seekNow g) Q (Prod.mk 0 (Prod.mk (List.cons l0 (List.cons l1 (List.cons l2 (List.cons l3 (List.cons l4 List.nil))))) (Prod.mk st (Prod.mk w (Prod.mk k n))))) = WP (MX3_seekNow g) Q (Prod.mk 5 (Prod.mk (List.cons l0 (List.cons l1 (List.cons (nl l2) (List.cons (nl (Option.some (Value.int (-1)))) (List.cons (Option.some (Value.int (0 : Int32))) List.nil))))) (Prod.mk st (Prod.mk w (Prod.mk k n))))) := Eq.trans (ic_m rfl (oy_2 qx_cX3_seekNow_0 0 rfl)) (Eq.trans (isn_e rfl (oy_62 qx_cX3_seekNow_0 1 rfl) rfl rfl) (Eq.trans (ic_0 rfl (oy_3 qx_cX3_seekNow_0 2 rfl)) (is_e rfl (oy_54 qx_cX3_seekNow_0 3 4 rfl rfl) rfl rfl)))
theorem eX3_seekNow_5 {g : RO} {Q : Ot → Hw → Prop} {st : List Value} {w : Hw} {k n : Nat} {a : Int32} {l0 l1 l2 l3 : Option Value} : WP (MX3_seekNow g) Q (Prod.mk 5 (Prod.mk (List.cons l0 (List.cons l1 (List.cons l2 (List.cons l3 (List.cons (Option.some (Value.int a)) List.nil))))) (Prod.mk st (Prod.mk w (Prod.mk k n))))) = WP (MX3_seekNow g) Q (Prod.mk 7 (Prod.mk (List.cons l0 (List.cons l1 (List.cons l2 (List.cons l3 (List.cons (Option.some (Value.int a)) List.nil))))) (Prod.mk (List.cons (Value.int a) st) (Prod.mk w (Prod.mk k n))))) := il_e rfl (oy_21 qx_cX3_seekNow_0 5 4 rfl rfl) rfl
theorem eX3_seekNow_7 {g : RO} {Q : Ot → Hw → Prop} {w : Hw} {st : List Value} {k n p : Nat} {l1 l2 l3 l4 : Option Value} : WP (MX3_seekNow g) Q (Prod.mk 7 (Prod.mk (List.cons (Option.some (Value.ref p)) (List.cons l1 (List.cons l2 (List.cons l3 (List.cons l4 List.nil))))) (Prod.mk st (Prod.mk w (Prod.mk k n))))) = go (rd g w p) 7 fun fs => ∃ v, fs[3]? = some v ∧ WP (MX3_seekNow g) Q (Prod.mk 11 (Prod.mk (List.cons (Option.some (Value.ref p)) (List.cons l1 (List.cons l2 (List.cons l3 (List.cons l4 List.nil))))) (Prod.mk (List.cons v st) (Prod.mk w (Prod.mk k n))))) := Eq.trans (alnR_e rfl (oy_42 qx_cX3_seekNow_0 7 rfl) rfl) (get_e rfl (oy_180 qx_cX3_seekNow_0 8 0 20 rfl rfl rfl rfl) rfl)
theorem eX3_seekNow_11 {g : RO} {Q : Ot → Hw → Prop} {st : List Value} {w : Hw} {k n p : Nat} {l0 l1 l2 l3 l4 : Option Value} : WP (MX3_seekNow g) Q (Prod.mk 11 (Prod.mk (List.cons l0 (List.cons l1 (List.cons l2 (List.cons l3 (List.cons l4 List.nil))))) (Prod.mk (List.cons (Value.ref p) st) (Prod.mk w (Prod.mk k n))))) = (go (rd g w p) 3 (fun _ => True) ∧ wt st ≤ 8 ∧ k + 0 ≤ 0 ∧ n + 0 ≤ 0 ∧ WP (MJx4a65c_size_8abf5 g) (kx (fun v w' => WP (MX3_seekNow g) Q (Prod.mk 14 (Prod.mk (List.cons l0 (List.cons l1 (List.cons l2 (List.cons l3 (List.cons l4 List.nil))))) (Prod.mk (v.toList ++ st) (Prod.mk w' (Prod.mk (k + 0) (n + 0))))))) (fun E w' => Q (.inr E) w')) (Prod.mk 0 (Prod.mk (List.cons (Option.some (Value.ref p)) List.nil) (Prod.mk List.nil (Prod.mk w (Prod.mk 0 0)))))) := csV0 (M := (MX3_seekNow g)) (mc := (fun _ _ => 0)) (ms := (fun _ _ => 0)) (As := []) (rest := st) (MJx4a65c_size_8abf5 g) rfl rfl rfl (oy_182 qx_cX3_seekNow_0 11 0 174 rfl rfl rfl rfl) rfl rfl rfl rfl rfl rfl
theorem eX3_seekNow_14 {g : RO} {Q : Ot → Hw → Prop} {st : List Value} {w : Hw} {k n : Nat} {a b : Int32} {l0 l1 l2 l3 l4 : Option Value} : WP (MX3_seekNow g) Q (Prod.mk 14 (Prod.mk (List.cons l0 (List.cons l1 (List.cons l2 (List.cons l3 (List.cons l4 List.nil))))) (Prod.mk (List.cons (Value.int b) (List.cons (Value.int a) st)) (Prod.mk w (Prod.mk k n))))) = if b ≤ a then WP (MX3_seekNow g) Q (Prod.mk 64 (Prod.mk (List.cons l0 (List.cons l1 (List.cons l2 (List.cons l3 (List.cons l4 List.nil))))) (Prod.mk st (Prod.mk w (Prod.mk k n))))) else WP (MX3_seekNow g) Q (Prod.mk 17 (Prod.mk (List.cons l0 (List.cons l1 (List.cons l2 (List.cons l3 (List.cons l4 List.nil))))) (Prod.mk st (Prod.mk w (Prod.mk k n))))) := icm_e (b ≤ a) rfl (oy_162 qx_cX3_seekNow_0 14 0 50 rfl rfl rfl rfl) rfl (by decide)
theorem eX3_seekNow_17 {g : RO} {Q : Ot → Hw → Prop} {w : Hw} {st : List Value} {k n p : Nat} {l1 l2 l3 l4 : Option Value} : WP (MX3_seekNow g) Q (Prod.mk 17 (Prod.mk (List.cons (Option.some (Value.ref p)) (List.cons l1 (List.cons l2 (List.cons l3 (List.cons l4 List.nil))))) (Prod.mk st (Prod.mk w (Prod.mk k n))))) = go (rd g w p) 7 fun fs => ∃ v, fs[3]? = some v ∧ WP (MX3_seekNow g) Q (Prod.mk 21 (Prod.mk (List.cons (Option.some (Value.ref p)) (List.cons l1 (List.cons l2 (List.cons l3 (List.cons l4 List.nil))))) (Prod.mk (List.cons v st) (Prod.mk w (Prod.mk k n))))) := Eq.trans (alnR_e rfl (oy_42 qx_cX3_seekNow_0 17 rfl) rfl) (get_e rfl (oy_180 qx_cX3_seekNow_0 18 0 20 rfl rfl rfl rfl) rfl)
theorem eX3_seekNow_21 {g : RO} {Q : Ot → Hw → Prop} {st : List Value} {w : Hw} {k n : Nat} {a : Int32} {l0 l1 l2 l3 : Option Value} : WP (MX3_seekNow g) Q (Prod.mk 21 (Prod.mk (List.cons l0 (List.cons l1 (List.cons l2 (List.cons l3 (List.cons (Option.some (Value.int a)) List.nil))))) (Prod.mk st (Prod.mk w (Prod.mk k n))))) = WP (MX3_seekNow g) Q (Prod.mk 23 (Prod.mk (List.cons l0 (List.cons l1 (List.cons l2 (List.cons l3 (List.cons (Option.some (Value.int a)) List.nil))))) (Prod.mk (List.cons (Value.int a) st) (Prod.mk w (Prod.mk k n))))) := il_e rfl (oy_21 qx_cX3_seekNow_0 21 4 rfl rfl) rfl
theorem eX3_seekNow_23 {g : RO} {Q : Ot → Hw → Prop} {st : List Value} {w : Hw} {k n p : Nat} {l0 l1 l2 l3 l4 : Option Value} {z0 : Int32} : WP (MX3_seekNow g) Q (Prod.mk 23 (Prod.mk (List.cons l0 (List.cons l1 (List.cons l2 (List.cons l3 (List.cons l4 List.nil))))) (Prod.mk (List.cons (Value.int z0) (List.cons (Value.ref p) st)) (Prod.mk w (Prod.mk k n))))) = (go (rd g w p) 3 (fun _ => True) ∧ wt st ≤ 8 ∧ k + 0 ≤ 0 ∧ n + 0 ≤ 0 ∧ WP (MJx4a65c_get_915e3 g) (kx (fun v w' => WP (MX3_seekNow g) Q (Prod.mk 26 (Prod.mk (List.cons l0 (List.cons l1 (List.cons l2 (List.cons l3 (List.cons l4 List.nil))))) (Prod.mk (v.toList ++ st) (Prod.mk w' (Prod.mk (k + 0) (n + 0))))))) (fun E w' => Q (.inr E) w')) (Prod.mk 0 (Prod.mk (List.cons (Option.some (Value.ref p)) (List.cons (Option.some (Value.int z0)) List.nil)) (Prod.mk List.nil (Prod.mk w (Prod.mk 0 0)))))) := csV0 (M := (MX3_seekNow g)) (mc := (fun _ _ => 0)) (ms := (fun _ _ => 0)) (As := [.int z0]) (rest := st) (MJx4a65c_get_915e3 g) rfl rfl rfl (oy_182 qx_cX3_seekNow_0 23 0 42 rfl rfl rfl rfl) rfl rfl rfl rfl rfl rfl
theorem eX3_seekNow_26R {g : RO} {Q : Ot → Hw → Prop} {st : List Value} {w : Hw} {k n p : Nat} {l0 l1 l2 l3 l4 : Option Value} : WP (MX3_seekNow g) Q (Prod.mk 26 (Prod.mk (List.cons l0 (List.cons l1 (List.cons l2 (List.cons l3 (List.cons l4 List.nil))))) (Prod.mk (List.cons (Value.ref p) st) (Prod.mk w (Prod.mk k n))))) = ((∃ x, w p = Option.some (.inl (0, x))) ∧ WP (MX3_seekNow g) Q (Prod.mk 29 (Prod.mk (List.cons l0 (List.cons l1 (List.cons l2 (List.cons l3 (List.cons l4 List.nil))))) (Prod.mk (List.cons (Value.ref p) st) (Prod.mk w (Prod.mk k n)))))) := castR_e rfl (oy_192 qx_cX3_seekNow_0 26 0 125 rfl rfl rfl rfl) rfl
theorem eX3_seekNow_29 {g : RO} {Q : Ot → Hw → Prop} {w : Hw} {st : List Value} {k n p : Nat} {l1 l2 l3 l4 : Option Value} : WP (MX3_seekNow g) Q (Prod.mk 29 (Prod.mk (List.cons (Option.some (Value.ref p)) (List.cons l1 (List.cons l2 (List.cons l3 (List.cons l4 List.nil))))) (Prod.mk st (Prod.mk w (Prod.mk k n))))) = go (rd g w p) 7 fun fs => ∃ v, fs[2]? = some v ∧ WP (MX3_seekNow g) Q (Prod.mk 33 (Prod.mk (List.cons (Option.some (Value.ref p)) (List.cons l1 (List.cons l2 (List.cons l3 (List.cons l4 List.nil))))) (Prod.mk (List.cons v st) (Prod.mk w (Prod.mk k n))))) := Eq.trans (alnR_e rfl (oy_42 qx_cX3_seekNow_0 29 rfl) rfl) (get_e rfl (oy_180 qx_cX3_seekNow_0 30 0 16 rfl rfl rfl rfl) rfl)
theorem eX3_seekNow_33 {g : RO} {Q : Ot → Hw → Prop} {st : List Value} {w : Hw} {k n : Nat} {a : Int32} {l0 l2 l3 l4 : Option Value} : WP (MX3_seekNow g) Q (Prod.mk 33 (Prod.mk (List.cons l0 (List.cons (Option.some (Value.int a)) (List.cons l2 (List.cons l3 (List.cons l4 List.nil))))) (Prod.mk st (Prod.mk w (Prod.mk k n))))) = WP (MX3_seekNow g) Q (Prod.mk 34 (Prod.mk (List.cons l0 (List.cons (Option.some (Value.int a)) (List.cons l2 (List.cons l3 (List.cons l4 List.nil))))) (Prod.mk (List.cons (Value.int a) st) (Prod.mk w (Prod.mk k n))))) := iln_e rfl (oy_27 qx_cX3_seekNow_1 1 rfl) rfl
theorem eX3_seekNow_34 {g : RO} {Q : Ot → Hw → Prop} {st : List Value} {w : Hw} {k n p : Nat} {l0 l1 l2 l3 l4 : Option Value} {z0 : Int32} : WP (MX3_seekNow g) Q (Prod.mk 34 (Prod.mk (List.cons l0 (List.cons l1 (List.cons l2 (List.cons l3 (List.cons l4 List.nil))))) (Prod.mk (List.cons (Value.int z0) (List.cons (Value.ref p) st)) (Prod.mk w (Prod.mk k n))))) = (go (rd g w p) 3 (fun _ => True) ∧ wt st ≤ 8 ∧ k + 0 ≤ 0 ∧ n + 0 ≤ 0 ∧ WP (MJx4a65c_get_915e3 g) (kx (fun v w' => WP (MX3_seekNow g) Q (Prod.mk 37 (Prod.mk (List.cons l0 (List.cons l1 (List.cons l2 (List.cons l3 (List.cons l4 List.nil))))) (Prod.mk (v.toList ++ st) (Prod.mk w' (Prod.mk (k + 0) (n + 0))))))) (fun E w' => Q (.inr E) w')) (Prod.mk 0 (Prod.mk (List.cons (Option.some (Value.ref p)) (List.cons (Option.some (Value.int z0)) List.nil)) (Prod.mk List.nil (Prod.mk w (Prod.mk 0 0)))))) := csV0 (M := (MX3_seekNow g)) (mc := (fun _ _ => 0)) (ms := (fun _ _ => 0)) (As := [.int z0]) (rest := st) (MJx4a65c_get_915e3 g) rfl rfl rfl (oy_182 qx_cX3_seekNow_1 2 0 42 rfl rfl rfl rfl) rfl rfl rfl rfl rfl rfl
theorem eX3_seekNow_37R {g : RO} {Q : Ot → Hw → Prop} {st : List Value} {w : Hw} {k n p : Nat} {l0 l1 l2 l3 l4 : Option Value} : WP (MX3_seekNow g) Q (Prod.mk 37 (Prod.mk (List.cons l0 (List.cons l1 (List.cons l2 (List.cons l3 (List.cons l4 List.nil))))) (Prod.mk (List.cons (Value.ref p) st) (Prod.mk w (Prod.mk k n))))) = ((∃ x, w p = Option.some (.inl (0, x))) ∧ WP (MX3_seekNow g) Q (Prod.mk 40 (Prod.mk (List.cons l0 (List.cons l1 (List.cons l2 (List.cons l3 (List.cons l4 List.nil))))) (Prod.mk (List.cons (Value.ref p) st) (Prod.mk w (Prod.mk k n)))))) := castR_e rfl (oy_192 qx_cX3_seekNow_1 5 0 125 rfl rfl rfl rfl) rfl
theorem eX3_seekNow_40RR {g : RO} {Q : Ot → Hw → Prop} {st : List Value} {w : Hw} {k n : Nat} {l0 l1 l2 l3 l4 : Option Value} {z0 : Nat} {z1 : Nat} : WP (MX3_seekNow g) Q (Prod.mk 40 (Prod.mk (List.cons l0 (List.cons l1 (List.cons l2 (List.cons l3 (List.cons l4 List.nil))))) (Prod.mk (List.cons (Value.ref z1) (List.cons (Value.ref z0) st)) (Prod.mk w (Prod.mk k n))))) = (wt st ≤ 8 ∧ k + 0 ≤ 0 ∧ n + 0 ≤ 0 ∧ WP (MX3_same g) (kx (fun v w' => WP (MX3_seekNow g) Q (Prod.mk 43 (Prod.mk (List.cons l0 (List.cons l1 (List.cons l2 (List.cons l3 (List.cons l4 List.nil))))) (Prod.mk (v.toList ++ st) (Prod.mk w' (Prod.mk (k + 0) (n + 0))))))) (fun E w' => Q (.inr E) w')) (Prod.mk 0 (Prod.mk (List.cons (Option.some (Value.ref z0)) (List.cons (Option.some (Value.ref z1)) (List.cons none (List.cons none List.nil)))) (Prod.mk List.nil (Prod.mk w (Prod.mk 0 0)))))) := csS0 (M := (MX3_seekNow g)) (mc := (fun _ _ => 0)) (ms := (fun _ _ => 0)) (As := [.ref z0, .ref z1]) (rest := st) (MX3_same g) rfl rfl rfl (oy_184 qx_cX3_seekNow_1 8 0 126 rfl rfl rfl rfl) rfl rfl rfl rfl rfl rfl rfl
theorem eX3_seekNow_43 {g : RO} {Q : Ot → Hw → Prop} {st : List Value} {w : Hw} {k n : Nat} {a : Int32} {l0 l1 l2 l3 l4 : Option Value} : WP (MX3_seekNow g) Q (Prod.mk 43 (Prod.mk (List.cons l0 (List.cons l1 (List.cons l2 (List.cons l3 (List.cons l4 List.nil))))) (Prod.mk (List.cons (Value.int a) st) (Prod.mk w (Prod.mk k n))))) = if a = 0 then WP (MX3_seekNow g) Q (Prod.mk 58 (Prod.mk (List.cons l0 (List.cons l1 (List.cons l2 (List.cons l3 (List.cons l4 List.nil))))) (Prod.mk st (Prod.mk w (Prod.mk k n))))) else WP (MX3_seekNow g) Q (Prod.mk 46 (Prod.mk (List.cons l0 (List.cons l1 (List.cons l2 (List.cons l3 (List.cons l4 List.nil))))) (Prod.mk st (Prod.mk w (Prod.mk k n))))) := ifc_e (a = 0) rfl (oy_153 qx_cX3_seekNow_1 11 0 15 rfl rfl rfl rfl) rfl (by decide)
theorem eX3_seekNow_46 {g : RO} {Q : Ot → Hw → Prop} {w : Hw} {a : Int32} {st : List Value} {k n : Nat} {l0 l1 l3 l4 : Option Value} : WP (MX3_seekNow g) Q (Prod.mk 46 (Prod.mk (List.cons l0 (List.cons l1 (List.cons (Option.some (Value.int a)) (List.cons l3 (List.cons l4 List.nil))))) (Prod.mk st (Prod.mk w (Prod.mk k n))))) = if a = 0 then WP (MX3_seekNow g) Q (Prod.mk 50 (Prod.mk (List.cons l0 (List.cons l1 (List.cons (Option.some (Value.int a)) (List.cons l3 (List.cons l4 List.nil))))) (Prod.mk st (Prod.mk w (Prod.mk k n))))) else WP (MX3_seekNow g) Q (Prod.mk 55 (Prod.mk (List.cons l0 (List.cons l1 (List.cons (Option.some (Value.int a)) (List.cons l3 (List.cons l4 List.nil))))) (Prod.mk st (Prod.mk w (Prod.mk k n))))) := Eq.trans (iln_e rfl (oy_28 qx_cX3_seekNow_1 14 rfl) rfl) (ifcn_e (a = 0) rfl (oy_154 qx_cX3_seekNow_1 15 0 8 rfl rfl rfl rfl) rfl (by decide))
theorem eX3_seekNow_50 {g : RO} {Q : Ot → Hw → Prop} {w : Hw} {a : Int32} {st : List Value} {k n : Nat} {l0 l1 l2 l4 : Option Value} : WP (MX3_seekNow g) Q (Prod.mk 50 (Prod.mk (List.cons l0 (List.cons l1 (List.cons l2 (List.cons (Option.some (Value.int a)) (List.cons l4 List.nil))))) (Prod.mk st (Prod.mk w (Prod.mk k n))))) = if a = ((-1) : Int32) then WP (MX3_seekNow g) Q (Prod.mk 55 (Prod.mk (List.cons l0 (List.cons l1 (List.cons l2 (List.cons (Option.some (Value.int a)) (List.cons l4 List.nil))))) (Prod.mk st (Prod.mk w (Prod.mk k n))))) else WP (MX3_seekNow g) Q (Prod.mk 58 (Prod.mk (List.cons l0 (List.cons l1 (List.cons l2 (List.cons (Option.some (Value.int a)) (List.cons l4 List.nil))))) (Prod.mk st (Prod.mk w (Prod.mk k n))))) := Eq.trans (iln_e rfl (oy_29 qx_cX3_seekNow_1 18 rfl) rfl) (Eq.trans (ic_m rfl (oy_2 qx_cX3_seekNow_1 19 rfl)) (icmn_e (a = ((-1) : Int32)) rfl (oy_160 qx_cX3_seekNow_1 20 0 6 rfl rfl rfl rfl) rfl (by decide)))
theorem eX3_seekNow_55 {g : RO} {Q : Ot → Hw → Prop} {w : Hw} {a : Int32} {st : List Value} {k n : Nat} {l0 l1 l2 l3 : Option Value} : WP (MX3_seekNow g) Q (Prod.mk 55 (Prod.mk (List.cons l0 (List.cons l1 (List.cons l2 (List.cons l3 (List.cons (Option.some (Value.int a)) List.nil))))) (Prod.mk st (Prod.mk w (Prod.mk k n))))) = WP (MX3_seekNow g) Q (Prod.mk 58 (Prod.mk (List.cons l0 (List.cons l1 (List.cons (nl l2) (List.cons (Option.some (Value.int a)) (List.cons (Option.some (Value.int a)) List.nil))))) (Prod.mk st (Prod.mk w (Prod.mk k n))))) := Eq.trans (il_e rfl (oy_21 qx_cX3_seekNow_1 23 4 rfl rfl) rfl) (isn_e rfl (oy_62 qx_cX3_seekNow_1 25 rfl) rfl rfl)
theorem eX3_seekNow_58 {g : RO} {Q : Ot → Hw → Prop} {w : Hw} {a : Int32} {st : List Value} {k n : Nat} {l0 l1 l2 l3 : Option Value} : WP (MX3_seekNow g) Q (Prod.mk 58 (Prod.mk (List.cons l0 (List.cons l1 (List.cons l2 (List.cons l3 (List.cons (Option.some (Value.int a)) List.nil))))) (Prod.mk st (Prod.mk w (Prod.mk k n))))) = WP (MX3_seekNow g) Q (Prod.mk 5 (Prod.mk (List.cons l0 (List.cons l1 (List.cons l2 (List.cons (nl l3) (List.cons (Option.some (Value.int (a + 1))) List.nil))))) (Prod.mk st (Prod.mk w (Prod.mk k n))))) := Eq.trans (Eq.trans (iinc_e (M := (MX3_seekNow g)) (L := [l0, l1, l2, l3, some (.int a)]) (d := 1) rfl (oy_132 qx_cX3_seekNow_1 26 4 1 rfl rfl rfl rfl) (by decide) rfl) rfl) (goto_e rfl (oy_167 qx_cX3_seekNow_1 29 255 200 rfl rfl rfl rfl) (by decide))
set_option maxRecDepth 20000 in
theorem eX3_seekNow_64 {g : RO} {Q : Ot → Hw → Prop} {w : Hw} {a : Int32} {k n : Nat} {l0 l1 l2 l4 : Option Value} : WP (MX3_seekNow g) Q (Prod.mk 64 (Prod.mk (List.cons l0 (List.cons l1 (List.cons l2 (List.cons (Option.some (Value.int a)) (List.cons l4 List.nil))))) (Prod.mk List.nil (Prod.mk w (Prod.mk k n))))) = (k ≤ 0 ∧ n ≤ 0 ∧ Q (.inl (Option.some (Value.int a))) w) := Eq.trans (iln_e rfl (oy_29 qx_cX3_seekNow_2 0 rfl) rfl) (iretI_e rfl (oy_172 qx_cX3_seekNow_2 1 rfl) rfl)
theorem vMX3_seekNow {l : Launch} (hl : l.stackTraces = false) (G : GT) : vM l G (MX3_seekNow (gg G)) := vM_k RX3 cX3_seekNow rfl rfl (all_c (vF_RX3_20) (all_c (vF_RX3_16) (all_n))) all_n all_n all_n all_n (fun h => absurd rfl h) (all_c (kc_68 hl wk_1520) (all_c (kc_37 hl wk_1376) (all_c (kc_55 hl wk_1385) (all_n)))) all_n (all_c (⟨.long, rfl, (fun C h => by cases h), wk_1380⟩) (all_n)) (fun h => absurd rfl h) rfl all_n
theorem okX3_seekNow {l : Launch} (hl : l.stackTraces = false) {G : GT} : ∀ (args : List Value) (w : Hw) (S : Ot → Hw → Prop), spOf (MX3_seekNow (gg G)) args w S → CX l G yX3_seekNow (.code yX3_seekNow cX3_seekNow 5 (some .int)) 4 0 0 args w S := CX_sp (M := MX3_seekNow (gg G)) (y := yX3_seekNow) hl pn15 rfl (vMX3_seekNow hl G) (fun h => by cases h) rfl
theorem qx_cX3_seek_0 : ((cX3_seek.data.toList.drop 0).take 38).map UInt8.toNat = [42, 27, 182, 0, 134, 153, 0, 7, 3, 167, 0, 9, 42, 27, 28, 182, 0, 177, 172] := by decide +kernel
noncomputable def MX3_seek (g : RO) : MT := ((RX3, cX3_seek, 3, 6, 0, 0, false, some .int), [], [], [], [], [], 0, [(134, 2, 2, 7, 5, (fun _ _ => 0), (fun _ _ => 0), yX3_isNone, spOf (MX3_isNone g)), (177, 2, 3, 7, 4, (fun _ _ => 0), (fun _ _ => 0), yX3_seekNow, spOf (MX3_seekNow g))], [], [], 0, [], [], g)
theorem eX3_seek_0 {g : RO} {Q : Ot → Hw → Prop} {w : Hw} {z0 : Int32} {st : List Value} {k n p : Nat} {l2 : Option Value} : WP (MX3_seek g) Q (Prod.mk 0 (Prod.mk (List.cons (Option.some (Value.ref p)) (List.cons (Option.some (Value.int z0)) (List.cons l2 List.nil))) (Prod.mk st (Prod.mk w (Prod.mk k n))))) = (go (rd g w p) 7 (fun _ => True) ∧ wt st ≤ 8 ∧ k + 0 ≤ 0 ∧ n + 0 ≤ 0 ∧ WP (MX3_isNone g) (kx (fun v w' => WP (MX3_seek g) Q (Prod.mk 5 (Prod.mk (List.cons (Option.some (Value.ref p)) (List.cons (Option.some (Value.int z0)) (List.cons l2 List.nil))) (Prod.mk (v.toList ++ st) (Prod.mk w' (Prod.mk (k + 0) (n + 0))))))) (fun E w' => Q (.inr E) w')) (Prod.mk 0 (Prod.mk (List.cons (Option.some (Value.ref p)) (List.cons (Option.some (Value.int z0)) List.nil)) (Prod.mk List.nil (Prod.mk w (Prod.mk 0 0)))))) := Eq.trans (alnR_e rfl (oy_42 qx_cX3_seek_0 0 rfl) rfl) (Eq.trans (iln_e rfl (oy_27 qx_cX3_seek_0 1 rfl) rfl) (csV0 (M := (MX3_seek g)) (mc := (fun _ _ => 0)) (ms := (fun _ _ => 0)) (As := [.int z0]) (rest := st) (MX3_isNone g) rfl rfl rfl (oy_182 qx_cX3_seek_0 2 0 134 rfl rfl rfl rfl) rfl rfl rfl rfl rfl rfl))
theorem eX3_seek_5 {g : RO} {Q : Ot → Hw → Prop} {st : List Value} {w : Hw} {k n : Nat} {a : Int32} {l0 l1 l2 : Option Value} : WP (MX3_seek g) Q (Prod.mk 5 (Prod.mk (List.cons l0 (List.cons l1 (List.cons l2 List.nil))) (Prod.mk (List.cons (Value.int a) st) (Prod.mk w (Prod.mk k n))))) = if a = 0 then WP (MX3_seek g) Q (Prod.mk 12 (Prod.mk (List.cons l0 (List.cons l1 (List.cons l2 List.nil))) (Prod.mk st (Prod.mk w (Prod.mk k n))))) else WP (MX3_seek g) Q (Prod.mk 8 (Prod.mk (List.cons l0 (List.cons l1 (List.cons l2 List.nil))) (Prod.mk st (Prod.mk w (Prod.mk k n))))) := ifc_e (a = 0) rfl (oy_153 qx_cX3_seek_0 5 0 7 rfl rfl rfl rfl) rfl (by decide)
theorem eX3_seek_8 {g : RO} {Q : Ot → Hw → Prop} {w : Hw} {st : List Value} {k n : Nat} {l0 l1 l2 : Option Value} : WP (MX3_seek g) Q (Prod.mk 8 (Prod.mk (List.cons l0 (List.cons l1 (List.cons l2 List.nil))) (Prod.mk st (Prod.mk w (Prod.mk k n))))) = WP (MX3_seek g) Q (Prod.mk 18 (Prod.mk (List.cons l0 (List.cons l1 (List.cons l2 List.nil))) (Prod.mk (List.cons (Value.int 0) st) (Prod.mk w (Prod.mk k n))))) := Eq.trans (ic_0 rfl (oy_3 qx_cX3_seek_0 8 rfl)) (goto_e rfl (oy_167 qx_cX3_seek_0 9 0 9 rfl rfl rfl rfl) (by decide))
theorem eX3_seek_12 {g : RO} {Q : Ot → Hw → Prop} {w : Hw} {z0 z1 : Int32} {st : List Value} {k n p : Nat} : WP (MX3_seek g) Q (Prod.mk 12 (Prod.mk (List.cons (Option.some (Value.ref p)) (List.cons (Option.some (Value.int z0)) (List.cons (Option.some (Value.int z1)) List.nil))) (Prod.mk st (Prod.mk w (Prod.mk k n))))) = (go (rd g w p) 7 (fun _ => True) ∧ wt st ≤ 8 ∧ k + 0 ≤ 0 ∧ n + 0 ≤ 0 ∧ WP (MX3_seekNow g) (kx (fun v w' => WP (MX3_seek g) Q (Prod.mk 18 (Prod.mk (List.cons (Option.some (Value.ref p)) (List.cons (Option.some (Value.int z0)) (List.cons (Option.some (Value.int z1)) List.nil))) (Prod.mk (v.toList ++ st) (Prod.mk w' (Prod.mk (k + 0) (n + 0))))))) (fun E w' => Q (.inr E) w')) (Prod.mk 0 (Prod.mk (List.cons (Option.some (Value.ref p)) (List.cons (Option.some (Value.int z0)) (List.cons (Option.some (Value.int z1)) (List.cons none (List.cons none List.nil))))) (Prod.mk List.nil (Prod.mk w (Prod.mk 0 0)))))) := Eq.trans (alnR_e rfl (oy_42 qx_cX3_seek_0 12 rfl) rfl) (Eq.trans (iln_e rfl (oy_27 qx_cX3_seek_0 13 rfl) rfl) (Eq.trans (iln_e rfl (oy_28 qx_cX3_seek_0 14 rfl) rfl) (csV0 (M := (MX3_seek g)) (mc := (fun _ _ => 0)) (ms := (fun _ _ => 0)) (As := [.int z0, .int z1]) (rest := st) (MX3_seekNow g) rfl rfl rfl (oy_182 qx_cX3_seek_0 15 0 177 rfl rfl rfl rfl) rfl rfl rfl rfl rfl rfl)))
theorem eX3_seek_18 {g : RO} {Q : Ot → Hw → Prop} {w : Hw} {k n : Nat} {a : Int32} {l0 l1 l2 : Option Value} : WP (MX3_seek g) Q (Prod.mk 18 (Prod.mk (List.cons l0 (List.cons l1 (List.cons l2 List.nil))) (Prod.mk (List.cons (Value.int a) List.nil) (Prod.mk w (Prod.mk k n))))) = (k ≤ 0 ∧ n ≤ 0 ∧ Q (.inl (Option.some (Value.int a))) w) := iretI_e rfl (oy_172 qx_cX3_seek_0 18 rfl) rfl
theorem wk_1531 : (.code yX3_seekNow cX3_seekNow 5 (some .int) : Jvm.Cond) ∈ WS := WS_t7 33 (by eq_refl) (by eq_refl)
theorem wk_1528 : (.methodLink RX3 177 yX3_seekNow : Jvm.Cond) ∈ WS := WS_t7 30 (by eq_refl) (by eq_refl)
theorem wk_1530 : (.instanceMethod yX3_seekNow : Jvm.Cond) ∈ WS := WS_t7 32 (by eq_refl) (by eq_refl)
theorem wk_50 : (.selects RX3 yX3_seekNow yX3_seekNow : Jvm.Cond) ∈ WS := WS_at 50 (by decide +kernel) rfl
theorem pd47 : (parseMethodDescriptor "(IZ)I").map (fun d => d.parameters.length + 1) = some 3 := by decide +kernel
theorem kc_69 {l : Launch} (hl : l.stackTraces = false) {G : GT} {own : String} {i : Nat} (hw : Jvm.Cond.methodLink own i yX3_seekNow ∈ WS) : vCal l G own i (2, 3, 7, 4, (fun _ _ => 0), (fun _ _ => 0), yX3_seekNow, spOf (MX3_seekNow (gg G))) := ⟨cX3_seekNow, 5, some .int, fun y hy => by subst hy; exact ⟨Nat.le_of_ble_eq_true rfl, ⟨_, wk_1531, okX3_seekNow hl, Or.inl ⟨Nat.ne_of_beq_eq_false rfl, rfl⟩⟩, wk_60, nc13, ⟨pd47, hw, wk_1530, wk_50, (RX3, TX3, 7), rfl, rfl⟩⟩⟩
theorem vMX3_seek {l : Launch} (hl : l.stackTraces = false) (G : GT) : vM l G (MX3_seek (gg G)) := vM_k RX3 cX3_seek rfl rfl all_n all_n all_n all_n all_n (fun h => absurd rfl h) (all_c (kc_57 hl wk_1407) (all_c (kc_69 hl wk_1528) (all_n))) all_n all_n (fun h => absurd rfl h) rfl all_n
theorem okX3_seek {l : Launch} (hl : l.stackTraces = false) {G : GT} : ∀ (args : List Value) (w : Hw) (S : Ot → Hw → Prop), spOf (MX3_seek (gg G)) args w S → CX l G yX3_seek (.code yX3_seek cX3_seek 3 (some .int)) 6 0 0 args w S := CX_sp (M := MX3_seek (gg G)) (y := yX3_seek) hl pn15 rfl (vMX3_seek hl G) (fun h => by cases h) rfl
theorem qx_cX3_oftenNow_0 : ((cX3_oftenNow.data.toList.drop 0).take 38).map UInt8.toNat = [3, 61, 42, 180, 0, 20, 182, 0, 181, 78, 45, 185, 0, 185, 1, 0, 153, 0, 39, 45, 185, 0, 191, 1, 0, 192, 0, 125, 58, 4, 28, 25, 4, 42, 180, 0, 16, 27] := by decide +kernel
theorem qx_cX3_oftenNow_1 : ((cX3_oftenNow.data.toList.drop 32).take 38).map UInt8.toNat = [4, 42, 180, 0, 16, 27, 182, 0, 42, 192, 0, 125, 184, 0, 126, 184, 0, 92, 96, 61, 167, 255, 214, 28, 172] := by decide +kernel
theorem dX3_oftenNow_11 : decode cX3_oftenNow 11 = .ok (.invokeinterface 185 1, 5) := by decide +kernel
theorem dX3_oftenNow_20 : decode cX3_oftenNow 20 = .ok (.invokeinterface 191 1, 5) := by decide +kernel
noncomputable def MX3_oftenNow (g : RO) : MT := ((RX3, cX3_oftenNow, 5, 4, 1, 4, false, some .int), [(20, 7, 3), (16, 7, 2)], [], [], [], [], 0, [(181, 2, 1, 3, 2, (fun _ _ => 1), (fun _ _ => 4), yJx4a65c_iterator_32c93, spOf (MJx4a65c_iterator_32c93 g)), (185, 6, 1, 2, 1, (fun _ _ => 0), (fun _ _ => 0), yJx35411_hasNext_aae02, spOf (MJx35411_hasNext_aae02 g)), (191, 6, 1, 2, 2, (fun _ _ => 0), (fun _ _ => 0), yJx35411_next_0502b, spOf (MJx35411_next_0502b g)), (42, 2, 2, 3, 3, (fun _ _ => 0), (fun _ _ => 0), yJx4a65c_get_915e3, spOf (MJx4a65c_get_915e3 g)), (126, 0, 2, 0, 1, (fun _ _ => 0), (fun _ _ => 0), yX3_same, spOf (MX3_same g)), (92, 0, 1, 0, 1, (fun _ _ => 0), (fun _ _ => 0), yX3_one, spOf (MX3_one g))], [], [(125, 0)], 0, [], [], g)
theorem eX3_oftenNow_0 {g : RO} {Q : Ot → Hw → Prop} {w : Hw} {st : List Value} {k n : Nat} {l0 l1 l2 l3 l4 : Option Value} : WP (MX3_oftenNow g) Q (Prod.mk 0 (Prod.mk (List.cons l0 (List.cons l1 (List.cons l2 (List.cons l3 (List.cons l4 List.nil))))) (Prod.mk st (Prod.mk w (Prod.mk k n))))) = WP (MX3_oftenNow g) Q (Prod.mk 2 (Prod.mk (List.cons l0 (List.cons (nl l1) (List.cons (Option.some (Value.int (0 : Int32))) (List.cons l3 (List.cons l4 List.nil))))) (Prod.mk st (Prod.mk w (Prod.mk k n))))) := Eq.trans (ic_0 rfl (oy_3 qx_cX3_oftenNow_0 0 rfl)) (isn_e rfl (oy_61 qx_cX3_oftenNow_0 1 rfl) rfl rfl)
theorem eX3_oftenNow_2 {g : RO} {Q : Ot → Hw → Prop} {st : List Value} {w : Hw} {k n p : Nat} {l1 l2 l3 l4 : Option Value} : WP (MX3_oftenNow g) Q (Prod.mk 2 (Prod.mk (List.cons (Option.some (Value.ref p)) (List.cons l1 (List.cons l2 (List.cons l3 (List.cons l4 List.nil))))) (Prod.mk st (Prod.mk w (Prod.mk k n))))) = WP (MX3_oftenNow g) Q (Prod.mk 3 (Prod.mk (List.cons (Option.some (Value.ref p)) (List.cons l1 (List.cons l2 (List.cons l3 (List.cons l4 List.nil))))) (Prod.mk (List.cons (Value.ref p) st) (Prod.mk w (Prod.mk k n))))) := alnR_e rfl (oy_42 qx_cX3_oftenNow_0 2 rfl) rfl
theorem eX3_oftenNow_2N {g : RO} {Q : Ot → Hw → Prop} {st : List Value} {w : Hw} {k n : Nat} {l1 l2 l3 l4 : Option Value} : WP (MX3_oftenNow g) Q (Prod.mk 2 (Prod.mk (List.cons (Option.some Value.null) (List.cons l1 (List.cons l2 (List.cons l3 (List.cons l4 List.nil))))) (Prod.mk st (Prod.mk w (Prod.mk k n))))) = WP (MX3_oftenNow g) Q (Prod.mk 3 (Prod.mk (List.cons (Option.some Value.null) (List.cons l1 (List.cons l2 (List.cons l3 (List.cons l4 List.nil))))) (Prod.mk (List.cons Value.null st) (Prod.mk w (Prod.mk k n))))) := alnN_e rfl (oy_42 qx_cX3_oftenNow_0 2 rfl) rfl
theorem eX3_oftenNow_3 {g : RO} {Q : Ot → Hw → Prop} {st : List Value} {w : Hw} {k n p : Nat} {l0 l1 l2 l3 l4 : Option Value} : WP (MX3_oftenNow g) Q (Prod.mk 3 (Prod.mk (List.cons l0 (List.cons l1 (List.cons l2 (List.cons l3 (List.cons l4 List.nil))))) (Prod.mk (List.cons (Value.ref p) st) (Prod.mk w (Prod.mk k n))))) = go (rd g w p) 7 fun fs => ∃ v, fs[3]? = some v ∧ WP (MX3_oftenNow g) Q (Prod.mk 6 (Prod.mk (List.cons l0 (List.cons l1 (List.cons l2 (List.cons l3 (List.cons l4 List.nil))))) (Prod.mk (List.cons v st) (Prod.mk w (Prod.mk k n))))) := get_e rfl (oy_180 qx_cX3_oftenNow_0 3 0 20 rfl rfl rfl rfl) rfl
theorem eX3_oftenNow_6 {g : RO} {Q : Ot → Hw → Prop} {st : List Value} {w : Hw} {k n p : Nat} {l0 l1 l2 l3 l4 : Option Value} : WP (MX3_oftenNow g) Q (Prod.mk 6 (Prod.mk (List.cons l0 (List.cons l1 (List.cons l2 (List.cons l3 (List.cons l4 List.nil))))) (Prod.mk (List.cons (Value.ref p) st) (Prod.mk w (Prod.mk k n))))) = (go (rd g w p) 3 (fun _ => True) ∧ wt st ≤ 8 ∧ k + 1 ≤ 1 ∧ n + 4 ≤ 4 ∧ WP (MJx4a65c_iterator_32c93 g) (kx (fun v w' => WP (MX3_oftenNow g) Q (Prod.mk 9 (Prod.mk (List.cons l0 (List.cons l1 (List.cons l2 (List.cons l3 (List.cons l4 List.nil))))) (Prod.mk (v.toList ++ st) (Prod.mk w' (Prod.mk (k + 1) (n + 4))))))) (fun E w' => Q (.inr E) w')) (Prod.mk 0 (Prod.mk (List.cons (Option.some (Value.ref p)) List.nil) (Prod.mk List.nil (Prod.mk w (Prod.mk 0 0)))))) := csV0 (M := (MX3_oftenNow g)) (mc := (fun _ _ => 1)) (ms := (fun _ _ => 4)) (As := []) (rest := st) (MJx4a65c_iterator_32c93 g) rfl rfl rfl (oy_182 qx_cX3_oftenNow_0 6 0 181 rfl rfl rfl rfl) rfl rfl rfl rfl rfl rfl
theorem eX3_oftenNow_9 {g : RO} {Q : Ot → Hw → Prop} {st : List Value} {w : Hw} {k n p : Nat} {l0 l1 l2 l3 l4 : Option Value} : WP (MX3_oftenNow g) Q (Prod.mk 9 (Prod.mk (List.cons l0 (List.cons l1 (List.cons l2 (List.cons l3 (List.cons l4 List.nil))))) (Prod.mk (List.cons (Value.ref p) st) (Prod.mk w (Prod.mk k n))))) = WP (MX3_oftenNow g) Q (Prod.mk 10 (Prod.mk (List.cons l0 (List.cons l1 (List.cons (nl l2) (List.cons (Option.some (Value.ref p)) (List.cons l4 List.nil))))) (Prod.mk st (Prod.mk w (Prod.mk k n))))) := asnR_e rfl (oy_78 qx_cX3_oftenNow_0 9 rfl) rfl rfl
theorem eX3_oftenNow_9N {g : RO} {Q : Ot → Hw → Prop} {st : List Value} {w : Hw} {k n : Nat} {l0 l1 l2 l3 l4 : Option Value} : WP (MX3_oftenNow g) Q (Prod.mk 9 (Prod.mk (List.cons l0 (List.cons l1 (List.cons l2 (List.cons l3 (List.cons l4 List.nil))))) (Prod.mk (List.cons Value.null st) (Prod.mk w (Prod.mk k n))))) = WP (MX3_oftenNow g) Q (Prod.mk 10 (Prod.mk (List.cons l0 (List.cons l1 (List.cons (nl l2) (List.cons (Option.some (Value.null)) (List.cons l4 List.nil))))) (Prod.mk st (Prod.mk w (Prod.mk k n))))) := asnN_e rfl (oy_78 qx_cX3_oftenNow_0 9 rfl) rfl rfl
theorem eX3_oftenNow_10 {g : RO} {Q : Ot → Hw → Prop} {st : List Value} {w : Hw} {k n p : Nat} {l0 l1 l2 l4 : Option Value} : WP (MX3_oftenNow g) Q (Prod.mk 10 (Prod.mk (List.cons l0 (List.cons l1 (List.cons l2 (List.cons (Option.some (Value.ref p)) (List.cons l4 List.nil))))) (Prod.mk st (Prod.mk w (Prod.mk k n))))) = WP (MX3_oftenNow g) Q (Prod.mk 11 (Prod.mk (List.cons l0 (List.cons l1 (List.cons l2 (List.cons (Option.some (Value.ref p)) (List.cons l4 List.nil))))) (Prod.mk (List.cons (Value.ref p) st) (Prod.mk w (Prod.mk k n))))) := alnR_e rfl (oy_45 qx_cX3_oftenNow_0 10 rfl) rfl
theorem eX3_oftenNow_11 {g : RO} {Q : Ot → Hw → Prop} {st : List Value} {w : Hw} {k n p : Nat} {l0 l1 l2 l3 l4 : Option Value} : WP (MX3_oftenNow g) Q (Prod.mk 11 (Prod.mk (List.cons l0 (List.cons l1 (List.cons l2 (List.cons l3 (List.cons l4 List.nil))))) (Prod.mk (List.cons (Value.ref p) st) (Prod.mk w (Prod.mk k n))))) = (go (rd g w p) 2 (fun _ => True) ∧ wt st ≤ 8 ∧ k + 0 ≤ 1 ∧ n + 0 ≤ 4 ∧ WP (MJx35411_hasNext_aae02 g) (kx (fun v w' => WP (MX3_oftenNow g) Q (Prod.mk 16 (Prod.mk (List.cons l0 (List.cons l1 (List.cons l2 (List.cons l3 (List.cons l4 List.nil))))) (Prod.mk (v.toList ++ st) (Prod.mk w' (Prod.mk (k + 0) (n + 0))))))) (fun E w' => Q (.inr E) w')) (Prod.mk 0 (Prod.mk (List.cons (Option.some (Value.ref p)) List.nil) (Prod.mk List.nil (Prod.mk w (Prod.mk 0 0)))))) := csF (M := (MX3_oftenNow g)) (mc := (fun _ _ => 0)) (ms := (fun _ _ => 0)) (As := []) (rest := st) (MJx35411_hasNext_aae02 g) rfl rfl dX3_oftenNow_11 rfl rfl (Nat.le_of_ble_eq_true rfl) (Nat.le_of_ble_eq_true rfl) rfl
theorem eX3_oftenNow_16 {g : RO} {Q : Ot → Hw → Prop} {st : List Value} {w : Hw} {k n : Nat} {a : Int32} {l0 l1 l2 l3 l4 : Option Value} : WP (MX3_oftenNow g) Q (Prod.mk 16 (Prod.mk (List.cons l0 (List.cons l1 (List.cons l2 (List.cons l3 (List.cons l4 List.nil))))) (Prod.mk (List.cons (Value.int a) st) (Prod.mk w (Prod.mk k n))))) = if a = 0 then WP (MX3_oftenNow g) Q (Prod.mk 55 (Prod.mk (List.cons l0 (List.cons l1 (List.cons l2 (List.cons l3 (List.cons l4 List.nil))))) (Prod.mk st (Prod.mk w (Prod.mk k n))))) else WP (MX3_oftenNow g) Q (Prod.mk 19 (Prod.mk (List.cons l0 (List.cons l1 (List.cons l2 (List.cons l3 (List.cons l4 List.nil))))) (Prod.mk st (Prod.mk w (Prod.mk k n))))) := ifc_e (a = 0) rfl (oy_153 qx_cX3_oftenNow_0 16 0 39 rfl rfl rfl rfl) rfl (by decide)
theorem eX3_oftenNow_19 {g : RO} {Q : Ot → Hw → Prop} {st : List Value} {w : Hw} {k n p : Nat} {l0 l1 l2 l4 : Option Value} : WP (MX3_oftenNow g) Q (Prod.mk 19 (Prod.mk (List.cons l0 (List.cons l1 (List.cons l2 (List.cons (Option.some (Value.ref p)) (List.cons l4 List.nil))))) (Prod.mk st (Prod.mk w (Prod.mk k n))))) = WP (MX3_oftenNow g) Q (Prod.mk 20 (Prod.mk (List.cons l0 (List.cons l1 (List.cons l2 (List.cons (Option.some (Value.ref p)) (List.cons l4 List.nil))))) (Prod.mk (List.cons (Value.ref p) st) (Prod.mk w (Prod.mk k n))))) := alnR_e rfl (oy_45 qx_cX3_oftenNow_0 19 rfl) rfl
theorem eX3_oftenNow_19N {g : RO} {Q : Ot → Hw → Prop} {st : List Value} {w : Hw} {k n : Nat} {l0 l1 l2 l4 : Option Value} : WP (MX3_oftenNow g) Q (Prod.mk 19 (Prod.mk (List.cons l0 (List.cons l1 (List.cons l2 (List.cons (Option.some Value.null) (List.cons l4 List.nil))))) (Prod.mk st (Prod.mk w (Prod.mk k n))))) = WP (MX3_oftenNow g) Q (Prod.mk 20 (Prod.mk (List.cons l0 (List.cons l1 (List.cons l2 (List.cons (Option.some Value.null) (List.cons l4 List.nil))))) (Prod.mk (List.cons Value.null st) (Prod.mk w (Prod.mk k n))))) := alnN_e rfl (oy_45 qx_cX3_oftenNow_0 19 rfl) rfl
theorem eX3_oftenNow_20 {g : RO} {Q : Ot → Hw → Prop} {st : List Value} {w : Hw} {k n p : Nat} {l0 l1 l2 l3 l4 : Option Value} : WP (MX3_oftenNow g) Q (Prod.mk 20 (Prod.mk (List.cons l0 (List.cons l1 (List.cons l2 (List.cons l3 (List.cons l4 List.nil))))) (Prod.mk (List.cons (Value.ref p) st) (Prod.mk w (Prod.mk k n))))) = (go (rd g w p) 2 (fun _ => True) ∧ wt st ≤ 8 ∧ k + 0 ≤ 1 ∧ n + 0 ≤ 4 ∧ WP (MJx35411_next_0502b g) (kx (fun v w' => WP (MX3_oftenNow g) Q (Prod.mk 25 (Prod.mk (List.cons l0 (List.cons l1 (List.cons l2 (List.cons l3 (List.cons l4 List.nil))))) (Prod.mk (v.toList ++ st) (Prod.mk w' (Prod.mk (k + 0) (n + 0))))))) (fun E w' => Q (.inr E) w')) (Prod.mk 0 (Prod.mk (List.cons (Option.some (Value.ref p)) (List.cons none (List.cons none List.nil))) (Prod.mk List.nil (Prod.mk w (Prod.mk 0 0)))))) := csF (M := (MX3_oftenNow g)) (mc := (fun _ _ => 0)) (ms := (fun _ _ => 0)) (As := []) (rest := st) (MJx35411_next_0502b g) rfl rfl dX3_oftenNow_20 rfl rfl (Nat.le_of_ble_eq_true rfl) (Nat.le_of_ble_eq_true rfl) rfl
theorem eX3_oftenNow_25N {g : RO} {Q : Ot → Hw → Prop} {st : List Value} {w : Hw} {k n : Nat} {l0 l1 l2 l3 l4 : Option Value} : WP (MX3_oftenNow g) Q (Prod.mk 25 (Prod.mk (List.cons l0 (List.cons l1 (List.cons l2 (List.cons l3 (List.cons l4 List.nil))))) (Prod.mk (List.cons Value.null st) (Prod.mk w (Prod.mk k n))))) = WP (MX3_oftenNow g) Q (Prod.mk 28 (Prod.mk (List.cons l0 (List.cons l1 (List.cons l2 (List.cons l3 (List.cons l4 List.nil))))) (Prod.mk (List.cons Value.null st) (Prod.mk w (Prod.mk k n))))) := castN_e rfl (oy_192 qx_cX3_oftenNow_0 25 0 125 rfl rfl rfl rfl)
theorem eX3_oftenNow_25R {g : RO} {Q : Ot → Hw → Prop} {st : List Value} {w : Hw} {k n p : Nat} {l0 l1 l2 l3 l4 : Option Value} : WP (MX3_oftenNow g) Q (Prod.mk 25 (Prod.mk (List.cons l0 (List.cons l1 (List.cons l2 (List.cons l3 (List.cons l4 List.nil))))) (Prod.mk (List.cons (Value.ref p) st) (Prod.mk w (Prod.mk k n))))) = ((∃ x, w p = Option.some (.inl (0, x))) ∧ WP (MX3_oftenNow g) Q (Prod.mk 28 (Prod.mk (List.cons l0 (List.cons l1 (List.cons l2 (List.cons l3 (List.cons l4 List.nil))))) (Prod.mk (List.cons (Value.ref p) st) (Prod.mk w (Prod.mk k n)))))) := castR_e rfl (oy_192 qx_cX3_oftenNow_0 25 0 125 rfl rfl rfl rfl) rfl
theorem eX3_oftenNow_28 {g : RO} {Q : Ot → Hw → Prop} {st : List Value} {w : Hw} {k n p : Nat} {l0 l1 l2 l3 l4 : Option Value} : WP (MX3_oftenNow g) Q (Prod.mk 28 (Prod.mk (List.cons l0 (List.cons l1 (List.cons l2 (List.cons l3 (List.cons l4 List.nil))))) (Prod.mk (List.cons (Value.ref p) st) (Prod.mk w (Prod.mk k n))))) = WP (MX3_oftenNow g) Q (Prod.mk 30 (Prod.mk (List.cons l0 (List.cons l1 (List.cons l2 (List.cons (nl l3) (List.cons (Option.some (Value.ref p)) List.nil))))) (Prod.mk st (Prod.mk w (Prod.mk k n))))) := asR_e rfl (oy_58 qx_cX3_oftenNow_0 28 4 rfl rfl) rfl rfl
theorem eX3_oftenNow_28N {g : RO} {Q : Ot → Hw → Prop} {st : List Value} {w : Hw} {k n : Nat} {l0 l1 l2 l3 l4 : Option Value} : WP (MX3_oftenNow g) Q (Prod.mk 28 (Prod.mk (List.cons l0 (List.cons l1 (List.cons l2 (List.cons l3 (List.cons l4 List.nil))))) (Prod.mk (List.cons Value.null st) (Prod.mk w (Prod.mk k n))))) = WP (MX3_oftenNow g) Q (Prod.mk 30 (Prod.mk (List.cons l0 (List.cons l1 (List.cons l2 (List.cons (nl l3) (List.cons (Option.some (Value.null)) List.nil))))) (Prod.mk st (Prod.mk w (Prod.mk k n))))) := asN_e rfl (oy_58 qx_cX3_oftenNow_0 28 4 rfl rfl) rfl rfl
theorem eX3_oftenNow_30 {g : RO} {Q : Ot → Hw → Prop} {st : List Value} {w : Hw} {k n : Nat} {a : Int32} {l0 l1 l3 l4 : Option Value} : WP (MX3_oftenNow g) Q (Prod.mk 30 (Prod.mk (List.cons l0 (List.cons l1 (List.cons (Option.some (Value.int a)) (List.cons l3 (List.cons l4 List.nil))))) (Prod.mk st (Prod.mk w (Prod.mk k n))))) = WP (MX3_oftenNow g) Q (Prod.mk 31 (Prod.mk (List.cons l0 (List.cons l1 (List.cons (Option.some (Value.int a)) (List.cons l3 (List.cons l4 List.nil))))) (Prod.mk (List.cons (Value.int a) st) (Prod.mk w (Prod.mk k n))))) := iln_e rfl (oy_28 qx_cX3_oftenNow_0 30 rfl) rfl
theorem eX3_oftenNow_31 {g : RO} {Q : Ot → Hw → Prop} {st : List Value} {w : Hw} {k n p : Nat} {l0 l1 l2 l3 : Option Value} : WP (MX3_oftenNow g) Q (Prod.mk 31 (Prod.mk (List.cons l0 (List.cons l1 (List.cons l2 (List.cons l3 (List.cons (Option.some (Value.ref p)) List.nil))))) (Prod.mk st (Prod.mk w (Prod.mk k n))))) = WP (MX3_oftenNow g) Q (Prod.mk 33 (Prod.mk (List.cons l0 (List.cons l1 (List.cons l2 (List.cons l3 (List.cons (Option.some (Value.ref p)) List.nil))))) (Prod.mk (List.cons (Value.ref p) st) (Prod.mk w (Prod.mk k n))))) := alR_e rfl (oy_25 qx_cX3_oftenNow_0 31 4 rfl rfl) rfl
theorem eX3_oftenNow_31N {g : RO} {Q : Ot → Hw → Prop} {st : List Value} {w : Hw} {k n : Nat} {l0 l1 l2 l3 : Option Value} : WP (MX3_oftenNow g) Q (Prod.mk 31 (Prod.mk (List.cons l0 (List.cons l1 (List.cons l2 (List.cons l3 (List.cons (Option.some Value.null) List.nil))))) (Prod.mk st (Prod.mk w (Prod.mk k n))))) = WP (MX3_oftenNow g) Q (Prod.mk 33 (Prod.mk (List.cons l0 (List.cons l1 (List.cons l2 (List.cons l3 (List.cons (Option.some Value.null) List.nil))))) (Prod.mk (List.cons Value.null st) (Prod.mk w (Prod.mk k n))))) := alN_e rfl (oy_25 qx_cX3_oftenNow_0 31 4 rfl rfl) rfl
theorem eX3_oftenNow_33 {g : RO} {Q : Ot → Hw → Prop} {st : List Value} {w : Hw} {k n p : Nat} {l1 l2 l3 l4 : Option Value} : WP (MX3_oftenNow g) Q (Prod.mk 33 (Prod.mk (List.cons (Option.some (Value.ref p)) (List.cons l1 (List.cons l2 (List.cons l3 (List.cons l4 List.nil))))) (Prod.mk st (Prod.mk w (Prod.mk k n))))) = WP (MX3_oftenNow g) Q (Prod.mk 34 (Prod.mk (List.cons (Option.some (Value.ref p)) (List.cons l1 (List.cons l2 (List.cons l3 (List.cons l4 List.nil))))) (Prod.mk (List.cons (Value.ref p) st) (Prod.mk w (Prod.mk k n))))) := alnR_e rfl (oy_42 qx_cX3_oftenNow_1 1 rfl) rfl
theorem eX3_oftenNow_33N {g : RO} {Q : Ot → Hw → Prop} {st : List Value} {w : Hw} {k n : Nat} {l1 l2 l3 l4 : Option Value} : WP (MX3_oftenNow g) Q (Prod.mk 33 (Prod.mk (List.cons (Option.some Value.null) (List.cons l1 (List.cons l2 (List.cons l3 (List.cons l4 List.nil))))) (Prod.mk st (Prod.mk w (Prod.mk k n))))) = WP (MX3_oftenNow g) Q (Prod.mk 34 (Prod.mk (List.cons (Option.some Value.null) (List.cons l1 (List.cons l2 (List.cons l3 (List.cons l4 List.nil))))) (Prod.mk (List.cons Value.null st) (Prod.mk w (Prod.mk k n))))) := alnN_e rfl (oy_42 qx_cX3_oftenNow_1 1 rfl) rfl
theorem eX3_oftenNow_34 {g : RO} {Q : Ot → Hw → Prop} {st : List Value} {w : Hw} {k n p : Nat} {l0 l1 l2 l3 l4 : Option Value} : WP (MX3_oftenNow g) Q (Prod.mk 34 (Prod.mk (List.cons l0 (List.cons l1 (List.cons l2 (List.cons l3 (List.cons l4 List.nil))))) (Prod.mk (List.cons (Value.ref p) st) (Prod.mk w (Prod.mk k n))))) = go (rd g w p) 7 fun fs => ∃ v, fs[2]? = some v ∧ WP (MX3_oftenNow g) Q (Prod.mk 37 (Prod.mk (List.cons l0 (List.cons l1 (List.cons l2 (List.cons l3 (List.cons l4 List.nil))))) (Prod.mk (List.cons v st) (Prod.mk w (Prod.mk k n))))) := get_e rfl (oy_180 qx_cX3_oftenNow_1 2 0 16 rfl rfl rfl rfl) rfl
theorem eX3_oftenNow_37 {g : RO} {Q : Ot → Hw → Prop} {st : List Value} {w : Hw} {k n : Nat} {a : Int32} {l0 l2 l3 l4 : Option Value} : WP (MX3_oftenNow g) Q (Prod.mk 37 (Prod.mk (List.cons l0 (List.cons (Option.some (Value.int a)) (List.cons l2 (List.cons l3 (List.cons l4 List.nil))))) (Prod.mk st (Prod.mk w (Prod.mk k n))))) = WP (MX3_oftenNow g) Q (Prod.mk 38 (Prod.mk (List.cons l0 (List.cons (Option.some (Value.int a)) (List.cons l2 (List.cons l3 (List.cons l4 List.nil))))) (Prod.mk (List.cons (Value.int a) st) (Prod.mk w (Prod.mk k n))))) := iln_e rfl (oy_27 qx_cX3_oftenNow_1 5 rfl) rfl
theorem eX3_oftenNow_38 {g : RO} {Q : Ot → Hw → Prop} {st : List Value} {w : Hw} {k n p : Nat} {l0 l1 l2 l3 l4 : Option Value} {z0 : Int32} : WP (MX3_oftenNow g) Q (Prod.mk 38 (Prod.mk (List.cons l0 (List.cons l1 (List.cons l2 (List.cons l3 (List.cons l4 List.nil))))) (Prod.mk (List.cons (Value.int z0) (List.cons (Value.ref p) st)) (Prod.mk w (Prod.mk k n))))) = (go (rd g w p) 3 (fun _ => True) ∧ wt st ≤ 8 ∧ k + 0 ≤ 1 ∧ n + 0 ≤ 4 ∧ WP (MJx4a65c_get_915e3 g) (kx (fun v w' => WP (MX3_oftenNow g) Q (Prod.mk 41 (Prod.mk (List.cons l0 (List.cons l1 (List.cons l2 (List.cons l3 (List.cons l4 List.nil))))) (Prod.mk (v.toList ++ st) (Prod.mk w' (Prod.mk (k + 0) (n + 0))))))) (fun E w' => Q (.inr E) w')) (Prod.mk 0 (Prod.mk (List.cons (Option.some (Value.ref p)) (List.cons (Option.some (Value.int z0)) List.nil)) (Prod.mk List.nil (Prod.mk w (Prod.mk 0 0)))))) := csV0 (M := (MX3_oftenNow g)) (mc := (fun _ _ => 0)) (ms := (fun _ _ => 0)) (As := [.int z0]) (rest := st) (MJx4a65c_get_915e3 g) rfl rfl rfl (oy_182 qx_cX3_oftenNow_1 6 0 42 rfl rfl rfl rfl) rfl rfl rfl rfl rfl rfl
theorem eX3_oftenNow_41N {g : RO} {Q : Ot → Hw → Prop} {st : List Value} {w : Hw} {k n : Nat} {l0 l1 l2 l3 l4 : Option Value} : WP (MX3_oftenNow g) Q (Prod.mk 41 (Prod.mk (List.cons l0 (List.cons l1 (List.cons l2 (List.cons l3 (List.cons l4 List.nil))))) (Prod.mk (List.cons Value.null st) (Prod.mk w (Prod.mk k n))))) = WP (MX3_oftenNow g) Q (Prod.mk 44 (Prod.mk (List.cons l0 (List.cons l1 (List.cons l2 (List.cons l3 (List.cons l4 List.nil))))) (Prod.mk (List.cons Value.null st) (Prod.mk w (Prod.mk k n))))) := castN_e rfl (oy_192 qx_cX3_oftenNow_1 9 0 125 rfl rfl rfl rfl)
theorem eX3_oftenNow_41R {g : RO} {Q : Ot → Hw → Prop} {st : List Value} {w : Hw} {k n p : Nat} {l0 l1 l2 l3 l4 : Option Value} : WP (MX3_oftenNow g) Q (Prod.mk 41 (Prod.mk (List.cons l0 (List.cons l1 (List.cons l2 (List.cons l3 (List.cons l4 List.nil))))) (Prod.mk (List.cons (Value.ref p) st) (Prod.mk w (Prod.mk k n))))) = ((∃ x, w p = Option.some (.inl (0, x))) ∧ WP (MX3_oftenNow g) Q (Prod.mk 44 (Prod.mk (List.cons l0 (List.cons l1 (List.cons l2 (List.cons l3 (List.cons l4 List.nil))))) (Prod.mk (List.cons (Value.ref p) st) (Prod.mk w (Prod.mk k n)))))) := castR_e rfl (oy_192 qx_cX3_oftenNow_1 9 0 125 rfl rfl rfl rfl) rfl
theorem eX3_oftenNow_44RR {g : RO} {Q : Ot → Hw → Prop} {st : List Value} {w : Hw} {k n : Nat} {l0 l1 l2 l3 l4 : Option Value} {z0 : Nat} {z1 : Nat} : WP (MX3_oftenNow g) Q (Prod.mk 44 (Prod.mk (List.cons l0 (List.cons l1 (List.cons l2 (List.cons l3 (List.cons l4 List.nil))))) (Prod.mk (List.cons (Value.ref z1) (List.cons (Value.ref z0) st)) (Prod.mk w (Prod.mk k n))))) = (wt st ≤ 8 ∧ k + 0 ≤ 1 ∧ n + 0 ≤ 4 ∧ WP (MX3_same g) (kx (fun v w' => WP (MX3_oftenNow g) Q (Prod.mk 47 (Prod.mk (List.cons l0 (List.cons l1 (List.cons l2 (List.cons l3 (List.cons l4 List.nil))))) (Prod.mk (v.toList ++ st) (Prod.mk w' (Prod.mk (k + 0) (n + 0))))))) (fun E w' => Q (.inr E) w')) (Prod.mk 0 (Prod.mk (List.cons (Option.some (Value.ref z0)) (List.cons (Option.some (Value.ref z1)) (List.cons none (List.cons none List.nil)))) (Prod.mk List.nil (Prod.mk w (Prod.mk 0 0)))))) := csS0 (M := (MX3_oftenNow g)) (mc := (fun _ _ => 0)) (ms := (fun _ _ => 0)) (As := [.ref z0, .ref z1]) (rest := st) (MX3_same g) rfl rfl rfl (oy_184 qx_cX3_oftenNow_1 12 0 126 rfl rfl rfl rfl) rfl rfl rfl rfl rfl rfl rfl
theorem eX3_oftenNow_44NR {g : RO} {Q : Ot → Hw → Prop} {st : List Value} {w : Hw} {k n : Nat} {l0 l1 l2 l3 l4 : Option Value} {z1 : Nat} : WP (MX3_oftenNow g) Q (Prod.mk 44 (Prod.mk (List.cons l0 (List.cons l1 (List.cons l2 (List.cons l3 (List.cons l4 List.nil))))) (Prod.mk (List.cons (Value.ref z1) (List.cons Value.null st)) (Prod.mk w (Prod.mk k n))))) = (wt st ≤ 8 ∧ k + 0 ≤ 1 ∧ n + 0 ≤ 4 ∧ WP (MX3_same g) (kx (fun v w' => WP (MX3_oftenNow g) Q (Prod.mk 47 (Prod.mk (List.cons l0 (List.cons l1 (List.cons l2 (List.cons l3 (List.cons l4 List.nil))))) (Prod.mk (v.toList ++ st) (Prod.mk w' (Prod.mk (k + 0) (n + 0))))))) (fun E w' => Q (.inr E) w')) (Prod.mk 0 (Prod.mk (List.cons (Option.some Value.null) (List.cons (Option.some (Value.ref z1)) (List.cons none (List.cons none List.nil)))) (Prod.mk List.nil (Prod.mk w (Prod.mk 0 0)))))) := csS0 (M := (MX3_oftenNow g)) (mc := (fun _ _ => 0)) (ms := (fun _ _ => 0)) (As := [.null, .ref z1]) (rest := st) (MX3_same g) rfl rfl rfl (oy_184 qx_cX3_oftenNow_1 12 0 126 rfl rfl rfl rfl) rfl rfl rfl rfl rfl rfl rfl
theorem eX3_oftenNow_44RN {g : RO} {Q : Ot → Hw → Prop} {st : List Value} {w : Hw} {k n : Nat} {l0 l1 l2 l3 l4 : Option Value} {z0 : Nat} : WP (MX3_oftenNow g) Q (Prod.mk 44 (Prod.mk (List.cons l0 (List.cons l1 (List.cons l2 (List.cons l3 (List.cons l4 List.nil))))) (Prod.mk (List.cons Value.null (List.cons (Value.ref z0) st)) (Prod.mk w (Prod.mk k n))))) = (wt st ≤ 8 ∧ k + 0 ≤ 1 ∧ n + 0 ≤ 4 ∧ WP (MX3_same g) (kx (fun v w' => WP (MX3_oftenNow g) Q (Prod.mk 47 (Prod.mk (List.cons l0 (List.cons l1 (List.cons l2 (List.cons l3 (List.cons l4 List.nil))))) (Prod.mk (v.toList ++ st) (Prod.mk w' (Prod.mk (k + 0) (n + 0))))))) (fun E w' => Q (.inr E) w')) (Prod.mk 0 (Prod.mk (List.cons (Option.some (Value.ref z0)) (List.cons (Option.some Value.null) (List.cons none (List.cons none List.nil)))) (Prod.mk List.nil (Prod.mk w (Prod.mk 0 0)))))) := csS0 (M := (MX3_oftenNow g)) (mc := (fun _ _ => 0)) (ms := (fun _ _ => 0)) (As := [.ref z0, .null]) (rest := st) (MX3_same g) rfl rfl rfl (oy_184 qx_cX3_oftenNow_1 12 0 126 rfl rfl rfl rfl) rfl rfl rfl rfl rfl rfl rfl
theorem eX3_oftenNow_44NN {g : RO} {Q : Ot → Hw → Prop} {st : List Value} {w : Hw} {k n : Nat} {l0 l1 l2 l3 l4 : Option Value} : WP (MX3_oftenNow g) Q (Prod.mk 44 (Prod.mk (List.cons l0 (List.cons l1 (List.cons l2 (List.cons l3 (List.cons l4 List.nil))))) (Prod.mk (List.cons Value.null (List.cons Value.null st)) (Prod.mk w (Prod.mk k n))))) = (wt st ≤ 8 ∧ k + 0 ≤ 1 ∧ n + 0 ≤ 4 ∧ WP (MX3_same g) (kx (fun v w' => WP (MX3_oftenNow g) Q (Prod.mk 47 (Prod.mk (List.cons l0 (List.cons l1 (List.cons l2 (List.cons l3 (List.cons l4 List.nil))))) (Prod.mk (v.toList ++ st) (Prod.mk w' (Prod.mk (k + 0) (n + 0))))))) (fun E w' => Q (.inr E) w')) (Prod.mk 0 (Prod.mk (List.cons (Option.some Value.null) (List.cons (Option.some Value.null) (List.cons none (List.cons none List.nil)))) (Prod.mk List.nil (Prod.mk w (Prod.mk 0 0)))))) := csS0 (M := (MX3_oftenNow g)) (mc := (fun _ _ => 0)) (ms := (fun _ _ => 0)) (As := [.null, .null]) (rest := st) (MX3_same g) rfl rfl rfl (oy_184 qx_cX3_oftenNow_1 12 0 126 rfl rfl rfl rfl) rfl rfl rfl rfl rfl rfl rfl
theorem eX3_oftenNow_47 {g : RO} {Q : Ot → Hw → Prop} {st : List Value} {w : Hw} {k n : Nat} {l0 l1 l2 l3 l4 : Option Value} {z0 : Int32} : WP (MX3_oftenNow g) Q (Prod.mk 47 (Prod.mk (List.cons l0 (List.cons l1 (List.cons l2 (List.cons l3 (List.cons l4 List.nil))))) (Prod.mk (List.cons (Value.int z0) st) (Prod.mk w (Prod.mk k n))))) = (wt st ≤ 8 ∧ k + 0 ≤ 1 ∧ n + 0 ≤ 4 ∧ WP (MX3_one g) (kx (fun v w' => WP (MX3_oftenNow g) Q (Prod.mk 50 (Prod.mk (List.cons l0 (List.cons l1 (List.cons l2 (List.cons l3 (List.cons l4 List.nil))))) (Prod.mk (v.toList ++ st) (Prod.mk w' (Prod.mk (k + 0) (n + 0))))))) (fun E w' => Q (.inr E) w')) (Prod.mk 0 (Prod.mk (List.cons (Option.some (Value.int z0)) List.nil) (Prod.mk List.nil (Prod.mk w (Prod.mk 0 0)))))) := csS0 (M := (MX3_oftenNow g)) (mc := (fun _ _ => 0)) (ms := (fun _ _ => 0)) (As := [.int z0]) (rest := st) (MX3_one g) rfl rfl rfl (oy_184 qx_cX3_oftenNow_1 15 0 92 rfl rfl rfl rfl) rfl rfl rfl rfl rfl rfl rfl
theorem eX3_oftenNow_50 {g : RO} {Q : Ot → Hw → Prop} {w : Hw} {a b : Int32} {st : List Value} {k n : Nat} {l0 l1 l2 l3 l4 : Option Value} : WP (MX3_oftenNow g) Q (Prod.mk 50 (Prod.mk (List.cons l0 (List.cons l1 (List.cons l2 (List.cons l3 (List.cons l4 List.nil))))) (Prod.mk (List.cons (Value.int b) (List.cons (Value.int a) st)) (Prod.mk w (Prod.mk k n))))) = WP (MX3_oftenNow g) Q (Prod.mk 10 (Prod.mk (List.cons l0 (List.cons (nl l1) (List.cons (Option.some (Value.int (a + b))) (List.cons l3 (List.cons l4 List.nil))))) (Prod.mk st (Prod.mk w (Prod.mk k n))))) := Eq.trans (iadd_e rfl (oy_96 qx_cX3_oftenNow_1 18 rfl)) (Eq.trans (isn_e rfl (oy_61 qx_cX3_oftenNow_1 19 rfl) rfl rfl) (goto_e rfl (oy_167 qx_cX3_oftenNow_1 20 255 214 rfl rfl rfl rfl) (by decide)))
set_option maxRecDepth 20000 in
theorem eX3_oftenNow_55 {g : RO} {Q : Ot → Hw → Prop} {w : Hw} {a : Int32} {k n : Nat} {l0 l1 l3 l4 : Option Value} : WP (MX3_oftenNow g) Q (Prod.mk 55 (Prod.mk (List.cons l0 (List.cons l1 (List.cons (Option.some (Value.int a)) (List.cons l3 (List.cons l4 List.nil))))) (Prod.mk List.nil (Prod.mk w (Prod.mk k n))))) = (k ≤ 1 ∧ n ≤ 4 ∧ Q (.inl (Option.some (Value.int a))) w) := Eq.trans (iln_e rfl (oy_28 qx_cX3_oftenNow_1 23 rfl) rfl) (iretI_e rfl (oy_172 qx_cX3_oftenNow_1 24 rfl) rfl)
theorem wk_1543 : (.code yJx4a65c_iterator_32c93 cJx4a65c_iterator_32c93 1 (some (.object "java/util/Iterator")) : Jvm.Cond) ∈ WS := WS_t7 45 (by eq_refl) (by eq_refl)
theorem wk_1540 : (.methodLink RX3 181 yJx4a65c_iterator_32c93 : Jvm.Cond) ∈ WS := WS_t7 42 (by eq_refl) (by eq_refl)
theorem wk_1541 : (.instanceMethod yJx4a65c_iterator_32c93 : Jvm.Cond) ∈ WS := WS_t7 43 (by eq_refl) (by eq_refl)
theorem wk_1542 : (.selects RJx4a65c yJx4a65c_iterator_32c93 yJx4a65c_iterator_32c93 : Jvm.Cond) ∈ WS := WS_t7 44 (by eq_refl) (by eq_refl)
theorem wk_1572 : (.code yJx35411_hasNext_aae02 cJx35411_hasNext_aae02 1 (some .boolean) : Jvm.Cond) ∈ WS := WS_t7 74 (by eq_refl) (by eq_refl)
theorem wk_1564 : (.methodLink RX3 185 (⟨"java/util/Iterator", "hasNext", "()Z"⟩ : MethodName) : Jvm.Cond) ∈ WS := WS_t7 66 (by eq_refl) (by eq_refl)
theorem wk_1570 : (.instanceMethod yJx35411_hasNext_aae02 : Jvm.Cond) ∈ WS := WS_t7 72 (by eq_refl) (by eq_refl)
theorem wk_1568 : (.selects RJx35411 (⟨"java/util/Iterator", "hasNext", "()Z"⟩ : MethodName) yJx35411_hasNext_aae02 : Jvm.Cond) ∈ WS := WS_t7 70 (by eq_refl) (by eq_refl)
theorem wk_1581 : (.code yJx35411_next_0502b cJx35411_next_0502b 3 (some (.object "java/lang/Object")) : Jvm.Cond) ∈ WS := WS_t7 83 (by eq_refl) (by eq_refl)
theorem wk_1574 : (.methodLink RX3 191 (⟨"java/util/Iterator", "next", "()Ljava/lang/Object;"⟩ : MethodName) : Jvm.Cond) ∈ WS := WS_t7 76 (by eq_refl) (by eq_refl)
theorem wk_1579 : (.instanceMethod yJx35411_next_0502b : Jvm.Cond) ∈ WS := WS_t7 81 (by eq_refl) (by eq_refl)
theorem wk_1577 : (.selects RJx35411 (⟨"java/util/Iterator", "next", "()Ljava/lang/Object;"⟩ : MethodName) yJx35411_next_0502b : Jvm.Cond) ∈ WS := WS_t7 79 (by eq_refl) (by eq_refl)
theorem pd48 : (parseMethodDescriptor "()Ljava/util/Iterator;").map (fun d => d.parameters.length + 1) = some 1 := by decide +kernel
theorem kc_70 {l : Launch} (hl : l.stackTraces = false) {G : GT} {own : String} {i : Nat} (hw : Jvm.Cond.methodLink own i yJx4a65c_iterator_32c93 ∈ WS) : vCal l G own i (2, 1, 3, 2, (fun _ _ => 1), (fun _ _ => 4), yJx4a65c_iterator_32c93, spOf (MJx4a65c_iterator_32c93 (gg G))) := ⟨cJx4a65c_iterator_32c93, 1, some (.object "java/util/Iterator"), fun y hy => by subst hy; exact ⟨Nat.le_of_ble_eq_true rfl, ⟨_, wk_1543, okJx4a65c_iterator_32c93 hl, Or.inl ⟨Nat.ne_of_beq_eq_false rfl, rfl⟩⟩, wk_63, nc6, ⟨pd48, hw, wk_1541, wk_1542, (RJx4a65c, TJx4a65c, 3), rfl, rfl⟩⟩⟩
theorem vMX3_oftenNow {l : Launch} (hl : l.stackTraces = false) (G : GT) : vM l G (MX3_oftenNow (gg G)) := vM_k RX3 cX3_oftenNow rfl rfl (all_c (vF_RX3_20) (all_c (vF_RX3_16) (all_n))) all_n all_n all_n all_n (fun h => absurd rfl h) (all_c (kc_70 hl wk_1540) (all_c (⟨cJx35411_hasNext_aae02, 1, some .boolean, fun y hy => by subst hy; exact ⟨Nat.le_of_ble_eq_true rfl, ⟨_, wk_1572, okJx35411_hasNext_aae02 hl, Or.inl ⟨Nat.ne_of_beq_eq_false rfl, rfl⟩⟩, wk_87, nc8, ⟨(⟨"java/util/Iterator", "hasNext", "()Z"⟩ : MethodName), (by decide +kernel : (parseMethodDescriptor (⟨"java/util/Iterator", "hasNext", "()Z"⟩ : MethodName).desc).map (fun d => d.parameters.length + 1) = some 1), wk_1564, wk_1570, (RJx35411, TJx35411, 4), rfl, wk_1568, (by decide : (RJx35411, (⟨"java/util/Iterator", "hasNext", "()Z"⟩ : MethodName), yJx35411_hasNext_aae02) ∈ IFL)⟩⟩⟩) (all_c (⟨cJx35411_next_0502b, 3, some (.object "java/lang/Object"), fun y hy => by subst hy; exact ⟨Nat.le_of_ble_eq_true rfl, ⟨_, wk_1581, okJx35411_next_0502b hl, Or.inl ⟨Nat.ne_of_beq_eq_false rfl, rfl⟩⟩, wk_87, nc8, ⟨(⟨"java/util/Iterator", "next", "()Ljava/lang/Object;"⟩ : MethodName), (by decide +kernel : (parseMethodDescriptor (⟨"java/util/Iterator", "next", "()Ljava/lang/Object;"⟩ : MethodName).desc).map (fun d => d.parameters.length + 1) = some 1), wk_1574, wk_1579, (RJx35411, TJx35411, 4), rfl, wk_1577, (by decide : (RJx35411, (⟨"java/util/Iterator", "next", "()Ljava/lang/Object;"⟩ : MethodName), yJx35411_next_0502b) ∈ IFL)⟩⟩⟩) (all_c (kc_37 hl wk_1376) (all_c (kc_55 hl wk_1385) (all_c (kc_47 hl wk_1311) (all_n))))))) all_n (all_c (⟨.long, rfl, (fun C h => by cases h), wk_1380⟩) (all_n)) (fun h => absurd rfl h) rfl all_n
theorem okX3_oftenNow {l : Launch} (hl : l.stackTraces = false) {G : GT} : ∀ (args : List Value) (w : Hw) (S : Ot → Hw → Prop), spOf (MX3_oftenNow (gg G)) args w S → CX l G yX3_oftenNow (.code yX3_oftenNow cX3_oftenNow 5 (some .int)) 4 1 4 args w S := CX_sp (M := MX3_oftenNow (gg G)) (y := yX3_oftenNow) hl pn15 rfl (vMX3_oftenNow hl G) (fun h => by cases h) rfl
theorem qx_cX3_howOften_0 : ((cX3_howOften.data.toList.drop 0).take 38).map UInt8.toNat = [42, 27, 182, 0, 134, 153, 0, 7, 3, 167, 0, 8, 42, 27, 182, 0, 195, 172] := by decide +kernel
noncomputable def MX3_howOften (g : RO) : MT := ((RX3, cX3_howOften, 2, 6, 1, 4, false, some .int), [], [], [], [], [], 0, [(134, 2, 2, 7, 5, (fun _ _ => 0), (fun _ _ => 0), yX3_isNone, spOf (MX3_isNone g)), (195, 2, 2, 7, 4, (fun _ _ => 1), (fun _ _ => 4), yX3_oftenNow, spOf (MX3_oftenNow g))], [], [], 0, [], [], g)
theorem eX3_howOften_0 {g : RO} {Q : Ot → Hw → Prop} {st : List Value} {w : Hw} {k n p : Nat} {l1 : Option Value} : WP (MX3_howOften g) Q (Prod.mk 0 (Prod.mk (List.cons (Option.some (Value.ref p)) (List.cons l1 List.nil)) (Prod.mk st (Prod.mk w (Prod.mk k n))))) = WP (MX3_howOften g) Q (Prod.mk 1 (Prod.mk (List.cons (Option.some (Value.ref p)) (List.cons l1 List.nil)) (Prod.mk (List.cons (Value.ref p) st) (Prod.mk w (Prod.mk k n))))) := alnR_e rfl (oy_42 qx_cX3_howOften_0 0 rfl) rfl
theorem eX3_howOften_0N {g : RO} {Q : Ot → Hw → Prop} {st : List Value} {w : Hw} {k n : Nat} {l1 : Option Value} : WP (MX3_howOften g) Q (Prod.mk 0 (Prod.mk (List.cons (Option.some Value.null) (List.cons l1 List.nil)) (Prod.mk st (Prod.mk w (Prod.mk k n))))) = WP (MX3_howOften g) Q (Prod.mk 1 (Prod.mk (List.cons (Option.some Value.null) (List.cons l1 List.nil)) (Prod.mk (List.cons Value.null st) (Prod.mk w (Prod.mk k n))))) := alnN_e rfl (oy_42 qx_cX3_howOften_0 0 rfl) rfl
theorem eX3_howOften_1 {g : RO} {Q : Ot → Hw → Prop} {w : Hw} {z0 : Int32} {st : List Value} {k n p : Nat} {l0 : Option Value} : WP (MX3_howOften g) Q (Prod.mk 1 (Prod.mk (List.cons l0 (List.cons (Option.some (Value.int z0)) List.nil)) (Prod.mk (List.cons (Value.ref p) st) (Prod.mk w (Prod.mk k n))))) = (go (rd g w p) 7 (fun _ => True) ∧ wt st ≤ 8 ∧ k + 0 ≤ 1 ∧ n + 0 ≤ 4 ∧ WP (MX3_isNone g) (kx (fun v w' => WP (MX3_howOften g) Q (Prod.mk 5 (Prod.mk (List.cons l0 (List.cons (Option.some (Value.int z0)) List.nil)) (Prod.mk (v.toList ++ st) (Prod.mk w' (Prod.mk (k + 0) (n + 0))))))) (fun E w' => Q (.inr E) w')) (Prod.mk 0 (Prod.mk (List.cons (Option.some (Value.ref p)) (List.cons (Option.some (Value.int z0)) List.nil)) (Prod.mk List.nil (Prod.mk w (Prod.mk 0 0)))))) := Eq.trans (iln_e rfl (oy_27 qx_cX3_howOften_0 1 rfl) rfl) (csV0 (M := (MX3_howOften g)) (mc := (fun _ _ => 0)) (ms := (fun _ _ => 0)) (As := [.int z0]) (rest := st) (MX3_isNone g) rfl rfl rfl (oy_182 qx_cX3_howOften_0 2 0 134 rfl rfl rfl rfl) rfl rfl rfl rfl rfl rfl)
theorem eX3_howOften_5 {g : RO} {Q : Ot → Hw → Prop} {st : List Value} {w : Hw} {k n : Nat} {a : Int32} {l0 l1 : Option Value} : WP (MX3_howOften g) Q (Prod.mk 5 (Prod.mk (List.cons l0 (List.cons l1 List.nil)) (Prod.mk (List.cons (Value.int a) st) (Prod.mk w (Prod.mk k n))))) = if a = 0 then WP (MX3_howOften g) Q (Prod.mk 12 (Prod.mk (List.cons l0 (List.cons l1 List.nil)) (Prod.mk st (Prod.mk w (Prod.mk k n))))) else WP (MX3_howOften g) Q (Prod.mk 8 (Prod.mk (List.cons l0 (List.cons l1 List.nil)) (Prod.mk st (Prod.mk w (Prod.mk k n))))) := ifc_e (a = 0) rfl (oy_153 qx_cX3_howOften_0 5 0 7 rfl rfl rfl rfl) rfl (by decide)
theorem eX3_howOften_8 {g : RO} {Q : Ot → Hw → Prop} {w : Hw} {st : List Value} {k n : Nat} {l0 l1 : Option Value} : WP (MX3_howOften g) Q (Prod.mk 8 (Prod.mk (List.cons l0 (List.cons l1 List.nil)) (Prod.mk st (Prod.mk w (Prod.mk k n))))) = WP (MX3_howOften g) Q (Prod.mk 17 (Prod.mk (List.cons l0 (List.cons l1 List.nil)) (Prod.mk (List.cons (Value.int 0) st) (Prod.mk w (Prod.mk k n))))) := Eq.trans (ic_0 rfl (oy_3 qx_cX3_howOften_0 8 rfl)) (goto_e rfl (oy_167 qx_cX3_howOften_0 9 0 8 rfl rfl rfl rfl) (by decide))
theorem eX3_howOften_12 {g : RO} {Q : Ot → Hw → Prop} {st : List Value} {w : Hw} {k n p : Nat} {l1 : Option Value} : WP (MX3_howOften g) Q (Prod.mk 12 (Prod.mk (List.cons (Option.some (Value.ref p)) (List.cons l1 List.nil)) (Prod.mk st (Prod.mk w (Prod.mk k n))))) = WP (MX3_howOften g) Q (Prod.mk 13 (Prod.mk (List.cons (Option.some (Value.ref p)) (List.cons l1 List.nil)) (Prod.mk (List.cons (Value.ref p) st) (Prod.mk w (Prod.mk k n))))) := alnR_e rfl (oy_42 qx_cX3_howOften_0 12 rfl) rfl
theorem eX3_howOften_12N {g : RO} {Q : Ot → Hw → Prop} {st : List Value} {w : Hw} {k n : Nat} {l1 : Option Value} : WP (MX3_howOften g) Q (Prod.mk 12 (Prod.mk (List.cons (Option.some Value.null) (List.cons l1 List.nil)) (Prod.mk st (Prod.mk w (Prod.mk k n))))) = WP (MX3_howOften g) Q (Prod.mk 13 (Prod.mk (List.cons (Option.some Value.null) (List.cons l1 List.nil)) (Prod.mk (List.cons Value.null st) (Prod.mk w (Prod.mk k n))))) := alnN_e rfl (oy_42 qx_cX3_howOften_0 12 rfl) rfl
theorem eX3_howOften_13 {g : RO} {Q : Ot → Hw → Prop} {w : Hw} {z0 : Int32} {st : List Value} {k n p : Nat} {l0 : Option Value} : WP (MX3_howOften g) Q (Prod.mk 13 (Prod.mk (List.cons l0 (List.cons (Option.some (Value.int z0)) List.nil)) (Prod.mk (List.cons (Value.ref p) st) (Prod.mk w (Prod.mk k n))))) = (go (rd g w p) 7 (fun _ => True) ∧ wt st ≤ 8 ∧ k + 1 ≤ 1 ∧ n + 4 ≤ 4 ∧ WP (MX3_oftenNow g) (kx (fun v w' => WP (MX3_howOften g) Q (Prod.mk 17 (Prod.mk (List.cons l0 (List.cons (Option.some (Value.int z0)) List.nil)) (Prod.mk (v.toList ++ st) (Prod.mk w' (Prod.mk (k + 1) (n + 4))))))) (fun E w' => Q (.inr E) w')) (Prod.mk 0 (Prod.mk (List.cons (Option.some (Value.ref p)) (List.cons (Option.some (Value.int z0)) (List.cons none (List.cons none (List.cons none List.nil))))) (Prod.mk List.nil (Prod.mk w (Prod.mk 0 0)))))) := Eq.trans (iln_e rfl (oy_27 qx_cX3_howOften_0 13 rfl) rfl) (csV0 (M := (MX3_howOften g)) (mc := (fun _ _ => 1)) (ms := (fun _ _ => 4)) (As := [.int z0]) (rest := st) (MX3_oftenNow g) rfl rfl rfl (oy_182 qx_cX3_howOften_0 14 0 195 rfl rfl rfl rfl) rfl rfl rfl rfl rfl rfl)
theorem eX3_howOften_17 {g : RO} {Q : Ot → Hw → Prop} {w : Hw} {k n : Nat} {a : Int32} {l0 l1 : Option Value} : WP (MX3_howOften g) Q (Prod.mk 17 (Prod.mk (List.cons l0 (List.cons l1 List.nil)) (Prod.mk (List.cons (Value.int a) List.nil) (Prod.mk w (Prod.mk k n))))) = (k ≤ 1 ∧ n ≤ 4 ∧ Q (.inl (Option.some (Value.int a))) w) := iretI_e rfl (oy_172 qx_cX3_howOften_0 17 rfl) rfl
theorem wk_1539 : (.code yX3_oftenNow cX3_oftenNow 5 (some .int) : Jvm.Cond) ∈ WS := WS_t7 41 (by eq_refl) (by eq_refl)
theorem wk_1536 : (.methodLink RX3 195 yX3_oftenNow : Jvm.Cond) ∈ WS := WS_t7 38 (by eq_refl) (by eq_refl)
theorem wk_1538 : (.instanceMethod yX3_oftenNow : Jvm.Cond) ∈ WS := WS_t7 40 (by eq_refl) (by eq_refl)
theorem wk_51 : (.selects RX3 yX3_oftenNow yX3_oftenNow : Jvm.Cond) ∈ WS := WS_at 51 (by decide +kernel) rfl
theorem kc_71 {l : Launch} (hl : l.stackTraces = false) {G : GT} {own : String} {i : Nat} (hw : Jvm.Cond.methodLink own i yX3_oftenNow ∈ WS) : vCal l G own i (2, 2, 7, 4, (fun _ _ => 1), (fun _ _ => 4), yX3_oftenNow, spOf (MX3_oftenNow (gg G))) := ⟨cX3_oftenNow, 5, some .int, fun y hy => by subst hy; exact ⟨Nat.le_of_ble_eq_true rfl, ⟨_, wk_1539, okX3_oftenNow hl, Or.inl ⟨Nat.ne_of_beq_eq_false rfl, rfl⟩⟩, wk_60, nc13, ⟨pd46, hw, wk_1538, wk_51, (RX3, TX3, 7), rfl, rfl⟩⟩⟩
theorem vMX3_howOften {l : Launch} (hl : l.stackTraces = false) (G : GT) : vM l G (MX3_howOften (gg G)) := vM_k RX3 cX3_howOften rfl rfl all_n all_n all_n all_n all_n (fun h => absurd rfl h) (all_c (kc_57 hl wk_1407) (all_c (kc_71 hl wk_1536) (all_n))) all_n all_n (fun h => absurd rfl h) rfl all_n
theorem okX3_howOften {l : Launch} (hl : l.stackTraces = false) {G : GT} : ∀ (args : List Value) (w : Hw) (S : Ot → Hw → Prop), spOf (MX3_howOften (gg G)) args w S → CX l G yX3_howOften (.code yX3_howOften cX3_howOften 2 (some .int)) 6 1 4 args w S := CX_sp (M := MX3_howOften (gg G)) (y := yX3_howOften) hl pn15 rfl (vMX3_howOften hl G) (fun h => by cases h) rfl
theorem qx_cX3_lift_0 : ((cX3_lift.data.toList.drop 0).take 38).map UInt8.toNat = [42, 27, 182, 0, 134, 153, 0, 5, 3, 172, 42, 27, 3, 182, 0, 177, 61, 28, 2, 159, 0, 12, 42, 180, 0, 20, 28, 182, 0, 198, 87, 28, 2, 159, 0, 7, 4, 167] := by decide +kernel
theorem qx_cX3_lift_1 : ((cX3_lift.data.toList.drop 32).take 38).map UInt8.toNat = [2, 159, 0, 7, 4, 167, 0, 4, 3, 184, 0, 92, 172] := by decide +kernel
noncomputable def MX3_lift (g : RO) : MT := ((RX3, cX3_lift, 3, 6, 0, 0, false, some .int), [(20, 7, 3)], [], [], [], [], 0, [(134, 2, 2, 7, 5, (fun _ _ => 0), (fun _ _ => 0), yX3_isNone, spOf (MX3_isNone g)), (177, 2, 3, 7, 4, (fun _ _ => 0), (fun _ _ => 0), yX3_seekNow, spOf (MX3_seekNow g)), (198, 2, 2, 3, 3, (fun _ _ => 0), (fun _ _ => 0), yJx4a65c_remove_915e3, spOf (MJx4a65c_remove_915e3 g)), (92, 0, 1, 0, 1, (fun _ _ => 0), (fun _ _ => 0), yX3_one, spOf (MX3_one g))], [], [], 0, [], [], g)
theorem eX3_lift_0 {g : RO} {Q : Ot → Hw → Prop} {w : Hw} {z0 : Int32} {st : List Value} {k n p : Nat} {l2 : Option Value} : WP (MX3_lift g) Q (Prod.mk 0 (Prod.mk (List.cons (Option.some (Value.ref p)) (List.cons (Option.some (Value.int z0)) (List.cons l2 List.nil))) (Prod.mk st (Prod.mk w (Prod.mk k n))))) = (go (rd g w p) 7 (fun _ => True) ∧ wt st ≤ 8 ∧ k + 0 ≤ 0 ∧ n + 0 ≤ 0 ∧ WP (MX3_isNone g) (kx (fun v w' => WP (MX3_lift g) Q (Prod.mk 5 (Prod.mk (List.cons (Option.some (Value.ref p)) (List.cons (Option.some (Value.int z0)) (List.cons l2 List.nil))) (Prod.mk (v.toList ++ st) (Prod.mk w' (Prod.mk (k + 0) (n + 0))))))) (fun E w' => Q (.inr E) w')) (Prod.mk 0 (Prod.mk (List.cons (Option.some (Value.ref p)) (List.cons (Option.some (Value.int z0)) List.nil)) (Prod.mk List.nil (Prod.mk w (Prod.mk 0 0)))))) := Eq.trans (alnR_e rfl (oy_42 qx_cX3_lift_0 0 rfl) rfl) (Eq.trans (iln_e rfl (oy_27 qx_cX3_lift_0 1 rfl) rfl) (csV0 (M := (MX3_lift g)) (mc := (fun _ _ => 0)) (ms := (fun _ _ => 0)) (As := [.int z0]) (rest := st) (MX3_isNone g) rfl rfl rfl (oy_182 qx_cX3_lift_0 2 0 134 rfl rfl rfl rfl) rfl rfl rfl rfl rfl rfl))
theorem eX3_lift_5 {g : RO} {Q : Ot → Hw → Prop} {st : List Value} {w : Hw} {k n : Nat} {a : Int32} {l0 l1 l2 : Option Value} : WP (MX3_lift g) Q (Prod.mk 5 (Prod.mk (List.cons l0 (List.cons l1 (List.cons l2 List.nil))) (Prod.mk (List.cons (Value.int a) st) (Prod.mk w (Prod.mk k n))))) = if a = 0 then WP (MX3_lift g) Q (Prod.mk 10 (Prod.mk (List.cons l0 (List.cons l1 (List.cons l2 List.nil))) (Prod.mk st (Prod.mk w (Prod.mk k n))))) else WP (MX3_lift g) Q (Prod.mk 8 (Prod.mk (List.cons l0 (List.cons l1 (List.cons l2 List.nil))) (Prod.mk st (Prod.mk w (Prod.mk k n))))) := ifc_e (a = 0) rfl (oy_153 qx_cX3_lift_0 5 0 5 rfl rfl rfl rfl) rfl (by decide)
theorem eX3_lift_8 {g : RO} {Q : Ot → Hw → Prop} {w : Hw} {k n : Nat} {l0 l1 l2 : Option Value} : WP (MX3_lift g) Q (Prod.mk 8 (Prod.mk (List.cons l0 (List.cons l1 (List.cons l2 List.nil))) (Prod.mk List.nil (Prod.mk w (Prod.mk k n))))) = (k ≤ 0 ∧ n ≤ 0 ∧ Q (.inl (Option.some (Value.int (0 : Int32)))) w) := Eq.trans (ic_0 rfl (oy_3 qx_cX3_lift_0 8 rfl)) (iretI_e rfl (oy_172 qx_cX3_lift_0 9 rfl) rfl)
theorem eX3_lift_10 {g : RO} {Q : Ot → Hw → Prop} {w : Hw} {z0 : Int32} {st : List Value} {k n p : Nat} {l2 : Option Value} : WP (MX3_lift g) Q (Prod.mk 10 (Prod.mk (List.cons (Option.some (Value.ref p)) (List.cons (Option.some (Value.int z0)) (List.cons l2 List.nil))) (Prod.mk st (Prod.mk w (Prod.mk k n))))) = (go (rd g w p) 7 (fun _ => True) ∧ wt st ≤ 8 ∧ k + 0 ≤ 0 ∧ n + 0 ≤ 0 ∧ WP (MX3_seekNow g) (kx (fun v w' => WP (MX3_lift g) Q (Prod.mk 16 (Prod.mk (List.cons (Option.some (Value.ref p)) (List.cons (Option.some (Value.int z0)) (List.cons l2 List.nil))) (Prod.mk (v.toList ++ st) (Prod.mk w' (Prod.mk (k + 0) (n + 0))))))) (fun E w' => Q (.inr E) w')) (Prod.mk 0 (Prod.mk (List.cons (Option.some (Value.ref p)) (List.cons (Option.some (Value.int z0)) (List.cons (Option.some (Value.int (0 : Int32))) (List.cons none (List.cons none List.nil))))) (Prod.mk List.nil (Prod.mk w (Prod.mk 0 0)))))) := Eq.trans (alnR_e rfl (oy_42 qx_cX3_lift_0 10 rfl) rfl) (Eq.trans (iln_e rfl (oy_27 qx_cX3_lift_0 11 rfl) rfl) (Eq.trans (ic_0 rfl (oy_3 qx_cX3_lift_0 12 rfl)) (csV0 (M := (MX3_lift g)) (mc := (fun _ _ => 0)) (ms := (fun _ _ => 0)) (As := [.int z0, .int (0 : Int32)]) (rest := st) (MX3_seekNow g) rfl rfl rfl (oy_182 qx_cX3_lift_0 13 0 177 rfl rfl rfl rfl) rfl rfl rfl rfl rfl rfl)))
theorem eX3_lift_16 {g : RO} {Q : Ot → Hw → Prop} {w : Hw} {a : Int32} {st : List Value} {k n : Nat} {l0 l1 l2 : Option Value} : WP (MX3_lift g) Q (Prod.mk 16 (Prod.mk (List.cons l0 (List.cons l1 (List.cons l2 List.nil))) (Prod.mk (List.cons (Value.int a) st) (Prod.mk w (Prod.mk k n))))) = if a = ((-1) : Int32) then WP (MX3_lift g) Q (Prod.mk 31 (Prod.mk (List.cons l0 (List.cons (nl l1) (List.cons (Option.some (Value.int a)) List.nil))) (Prod.mk st (Prod.mk w (Prod.mk k n))))) else WP (MX3_lift g) Q (Prod.mk 22 (Prod.mk (List.cons l0 (List.cons (nl l1) (List.cons (Option.some (Value.int a)) List.nil))) (Prod.mk st (Prod.mk w (Prod.mk k n))))) := Eq.trans (isn_e rfl (oy_61 qx_cX3_lift_0 16 rfl) rfl rfl) (Eq.trans (iln_e rfl (oy_28 qx_cX3_lift_0 17 rfl) rfl) (Eq.trans (ic_m rfl (oy_2 qx_cX3_lift_0 18 rfl)) (icm_e (a = ((-1) : Int32)) rfl (oy_159 qx_cX3_lift_0 19 0 12 rfl rfl rfl rfl) rfl (by decide))))
theorem eX3_lift_22 {g : RO} {Q : Ot → Hw → Prop} {w : Hw} {st : List Value} {k n p : Nat} {l1 l2 : Option Value} : WP (MX3_lift g) Q (Prod.mk 22 (Prod.mk (List.cons (Option.some (Value.ref p)) (List.cons l1 (List.cons l2 List.nil))) (Prod.mk st (Prod.mk w (Prod.mk k n))))) = go (rd g w p) 7 fun fs => ∃ v, fs[3]? = some v ∧ WP (MX3_lift g) Q (Prod.mk 26 (Prod.mk (List.cons (Option.some (Value.ref p)) (List.cons l1 (List.cons l2 List.nil))) (Prod.mk (List.cons v st) (Prod.mk w (Prod.mk k n))))) := Eq.trans (alnR_e rfl (oy_42 qx_cX3_lift_0 22 rfl) rfl) (get_e rfl (oy_180 qx_cX3_lift_0 23 0 20 rfl rfl rfl rfl) rfl)
theorem eX3_lift_26 {g : RO} {Q : Ot → Hw → Prop} {st : List Value} {w : Hw} {k n : Nat} {a : Int32} {l0 l1 : Option Value} : WP (MX3_lift g) Q (Prod.mk 26 (Prod.mk (List.cons l0 (List.cons l1 (List.cons (Option.some (Value.int a)) List.nil))) (Prod.mk st (Prod.mk w (Prod.mk k n))))) = WP (MX3_lift g) Q (Prod.mk 27 (Prod.mk (List.cons l0 (List.cons l1 (List.cons (Option.some (Value.int a)) List.nil))) (Prod.mk (List.cons (Value.int a) st) (Prod.mk w (Prod.mk k n))))) := iln_e rfl (oy_28 qx_cX3_lift_0 26 rfl) rfl
theorem eX3_lift_27 {g : RO} {Q : Ot → Hw → Prop} {st : List Value} {w : Hw} {k n p : Nat} {l0 l1 l2 : Option Value} {z0 : Int32} : WP (MX3_lift g) Q (Prod.mk 27 (Prod.mk (List.cons l0 (List.cons l1 (List.cons l2 List.nil))) (Prod.mk (List.cons (Value.int z0) (List.cons (Value.ref p) st)) (Prod.mk w (Prod.mk k n))))) = (go (rd g w p) 3 (fun _ => True) ∧ wt st ≤ 8 ∧ k + 0 ≤ 0 ∧ n + 0 ≤ 0 ∧ WP (MJx4a65c_remove_915e3 g) (kx (fun v w' => WP (MX3_lift g) Q (Prod.mk 30 (Prod.mk (List.cons l0 (List.cons l1 (List.cons l2 List.nil))) (Prod.mk (v.toList ++ st) (Prod.mk w' (Prod.mk (k + 0) (n + 0))))))) (fun E w' => Q (.inr E) w')) (Prod.mk 0 (Prod.mk (List.cons (Option.some (Value.ref p)) (List.cons (Option.some (Value.int z0)) (List.cons none (List.cons none List.nil)))) (Prod.mk List.nil (Prod.mk w (Prod.mk 0 0)))))) := csV0 (M := (MX3_lift g)) (mc := (fun _ _ => 0)) (ms := (fun _ _ => 0)) (As := [.int z0]) (rest := st) (MJx4a65c_remove_915e3 g) rfl rfl rfl (oy_182 qx_cX3_lift_0 27 0 198 rfl rfl rfl rfl) rfl rfl rfl rfl rfl rfl
theorem eX3_lift_30R {g : RO} {Q : Ot → Hw → Prop} {st : List Value} {w : Hw} {k n p : Nat} {l0 l1 l2 : Option Value} : WP (MX3_lift g) Q (Prod.mk 30 (Prod.mk (List.cons l0 (List.cons l1 (List.cons l2 List.nil))) (Prod.mk (List.cons (Value.ref p) st) (Prod.mk w (Prod.mk k n))))) = WP (MX3_lift g) Q (Prod.mk 31 (Prod.mk (List.cons l0 (List.cons l1 (List.cons l2 List.nil))) (Prod.mk st (Prod.mk w (Prod.mk k n))))) := popR_e rfl (oy_87 qx_cX3_lift_0 30 rfl)
theorem eX3_lift_31 {g : RO} {Q : Ot → Hw → Prop} {w : Hw} {a : Int32} {st : List Value} {k n : Nat} {l0 l1 : Option Value} : WP (MX3_lift g) Q (Prod.mk 31 (Prod.mk (List.cons l0 (List.cons l1 (List.cons (Option.some (Value.int a)) List.nil))) (Prod.mk st (Prod.mk w (Prod.mk k n))))) = if a = ((-1) : Int32) then WP (MX3_lift g) Q (Prod.mk 40 (Prod.mk (List.cons l0 (List.cons l1 (List.cons (Option.some (Value.int a)) List.nil))) (Prod.mk st (Prod.mk w (Prod.mk k n))))) else WP (MX3_lift g) Q (Prod.mk 36 (Prod.mk (List.cons l0 (List.cons l1 (List.cons (Option.some (Value.int a)) List.nil))) (Prod.mk st (Prod.mk w (Prod.mk k n))))) := Eq.trans (iln_e rfl (oy_28 qx_cX3_lift_0 31 rfl) rfl) (Eq.trans (ic_m rfl (oy_2 qx_cX3_lift_1 0 rfl)) (icm_e (a = ((-1) : Int32)) rfl (oy_159 qx_cX3_lift_1 1 0 7 rfl rfl rfl rfl) rfl (by decide)))
theorem eX3_lift_36 {g : RO} {Q : Ot → Hw → Prop} {w : Hw} {st : List Value} {k n : Nat} {l0 l1 l2 : Option Value} : WP (MX3_lift g) Q (Prod.mk 36 (Prod.mk (List.cons l0 (List.cons l1 (List.cons l2 List.nil))) (Prod.mk st (Prod.mk w (Prod.mk k n))))) = WP (MX3_lift g) Q (Prod.mk 41 (Prod.mk (List.cons l0 (List.cons l1 (List.cons l2 List.nil))) (Prod.mk (List.cons (Value.int 1) st) (Prod.mk w (Prod.mk k n))))) := Eq.trans (ic_1 rfl (oy_4 qx_cX3_lift_1 4 rfl)) (goto_e rfl (oy_167 qx_cX3_lift_1 5 0 4 rfl rfl rfl rfl) (by decide))
theorem eX3_lift_40 {g : RO} {Q : Ot → Hw → Prop} {st : List Value} {w : Hw} {k n : Nat} {l0 l1 l2 : Option Value} : WP (MX3_lift g) Q (Prod.mk 40 (Prod.mk (List.cons l0 (List.cons l1 (List.cons l2 List.nil))) (Prod.mk st (Prod.mk w (Prod.mk k n))))) = WP (MX3_lift g) Q (Prod.mk 41 (Prod.mk (List.cons l0 (List.cons l1 (List.cons l2 List.nil))) (Prod.mk (List.cons (Value.int 0) st) (Prod.mk w (Prod.mk k n))))) := ic_0 rfl (oy_3 qx_cX3_lift_1 8 rfl)
theorem eX3_lift_41 {g : RO} {Q : Ot → Hw → Prop} {st : List Value} {w : Hw} {k n : Nat} {l0 l1 l2 : Option Value} {z0 : Int32} : WP (MX3_lift g) Q (Prod.mk 41 (Prod.mk (List.cons l0 (List.cons l1 (List.cons l2 List.nil))) (Prod.mk (List.cons (Value.int z0) st) (Prod.mk w (Prod.mk k n))))) = (wt st ≤ 8 ∧ k + 0 ≤ 0 ∧ n + 0 ≤ 0 ∧ WP (MX3_one g) (kx (fun v w' => WP (MX3_lift g) Q (Prod.mk 44 (Prod.mk (List.cons l0 (List.cons l1 (List.cons l2 List.nil))) (Prod.mk (v.toList ++ st) (Prod.mk w' (Prod.mk (k + 0) (n + 0))))))) (fun E w' => Q (.inr E) w')) (Prod.mk 0 (Prod.mk (List.cons (Option.some (Value.int z0)) List.nil) (Prod.mk List.nil (Prod.mk w (Prod.mk 0 0)))))) := csS0 (M := (MX3_lift g)) (mc := (fun _ _ => 0)) (ms := (fun _ _ => 0)) (As := [.int z0]) (rest := st) (MX3_one g) rfl rfl rfl (oy_184 qx_cX3_lift_1 9 0 92 rfl rfl rfl rfl) rfl rfl rfl rfl rfl rfl rfl
set_option maxRecDepth 20000 in
theorem eX3_lift_44 {g : RO} {Q : Ot → Hw → Prop} {w : Hw} {k n : Nat} {a : Int32} {l0 l1 l2 : Option Value} : WP (MX3_lift g) Q (Prod.mk 44 (Prod.mk (List.cons l0 (List.cons l1 (List.cons l2 List.nil))) (Prod.mk (List.cons (Value.int a) List.nil) (Prod.mk w (Prod.mk k n))))) = (k ≤ 0 ∧ n ≤ 0 ∧ Q (.inl (Option.some (Value.int a))) w) := iretI_e rfl (oy_172 qx_cX3_lift_1 12 rfl) rfl
theorem wk_1593 : (.code yJx4a65c_remove_915e3 cJx4a65c_remove_915e3 4 (some (.object "java/lang/Object")) : Jvm.Cond) ∈ WS := WS_t7 95 (by eq_refl) (by eq_refl)
theorem wk_1590 : (.methodLink RX3 198 yJx4a65c_remove_915e3 : Jvm.Cond) ∈ WS := WS_t7 92 (by eq_refl) (by eq_refl)
theorem wk_1591 : (.instanceMethod yJx4a65c_remove_915e3 : Jvm.Cond) ∈ WS := WS_t7 93 (by eq_refl) (by eq_refl)
theorem wk_1592 : (.selects RJx4a65c yJx4a65c_remove_915e3 yJx4a65c_remove_915e3 : Jvm.Cond) ∈ WS := WS_t7 94 (by eq_refl) (by eq_refl)
theorem kc_72 {l : Launch} (hl : l.stackTraces = false) {G : GT} {own : String} {i : Nat} (hw : Jvm.Cond.methodLink own i yJx4a65c_remove_915e3 ∈ WS) : vCal l G own i (2, 2, 3, 3, (fun _ _ => 0), (fun _ _ => 0), yJx4a65c_remove_915e3, spOf (MJx4a65c_remove_915e3 (gg G))) := ⟨cJx4a65c_remove_915e3, 4, some (.object "java/lang/Object"), fun y hy => by subst hy; exact ⟨Nat.le_of_ble_eq_true rfl, ⟨_, wk_1593, okJx4a65c_remove_915e3 hl, Or.inl ⟨Nat.ne_of_beq_eq_false rfl, rfl⟩⟩, wk_63, nc6, ⟨pd12, hw, wk_1591, wk_1592, (RJx4a65c, TJx4a65c, 3), rfl, rfl⟩⟩⟩
theorem vMX3_lift {l : Launch} (hl : l.stackTraces = false) (G : GT) : vM l G (MX3_lift (gg G)) := vM_k RX3 cX3_lift rfl rfl (all_c (vF_RX3_20) (all_n)) all_n all_n all_n all_n (fun h => absurd rfl h) (all_c (kc_57 hl wk_1407) (all_c (kc_69 hl wk_1528) (all_c (kc_72 hl wk_1590) (all_c (kc_47 hl wk_1311) (all_n))))) all_n all_n (fun h => absurd rfl h) rfl all_n
theorem okX3_lift {l : Launch} (hl : l.stackTraces = false) {G : GT} : ∀ (args : List Value) (w : Hw) (S : Ot → Hw → Prop), spOf (MX3_lift (gg G)) args w S → CX l G yX3_lift (.code yX3_lift cX3_lift 3 (some .int)) 6 0 0 args w S := CX_sp (M := MX3_lift (gg G)) (y := yX3_lift) hl pn15 rfl (vMX3_lift hl G) (fun h => by cases h) rfl
end
/-! 40.model12.lean.txt -/
section
theorem qx_cX3_pick_0 : ((cX3_pick.data.toList.drop 0).take 38).map UInt8.toNat = [42, 27, 3, 42, 180, 0, 20, 182, 0, 174, 4, 100, 184, 0, 38, 153, 0, 10, 28, 184, 0, 111, 153, 0, 7, 4, 167, 0, 4, 3, 4, 182, 0, 54, 153, 0, 5, 3] := by decide +kernel
theorem qx_cX3_pick_1 : ((cX3_pick.data.toList.drop 32).take 38).map UInt8.toNat = [0, 54, 153, 0, 5, 3, 172, 42, 28, 182, 0, 118, 154, 0, 7, 4, 167, 0, 4, 3, 184, 0, 92, 62, 42, 180, 0, 16, 28, 42, 180, 0, 20, 27, 182, 0, 42, 192] := by decide +kernel
theorem qx_cX3_pick_2 : ((cX3_pick.data.toList.drop 64).take 38).map UInt8.toNat = [20, 27, 182, 0, 42, 192, 0, 125, 182, 0, 104, 87, 29, 172] := by decide +kernel
noncomputable def MX3_pick (g : RO) : MT := ((RX3, cX3_pick, 4, 5, 0, 0, false, some .int), [(20, 7, 3), (16, 7, 2)], [], [], [], [], 0, [(174, 2, 1, 3, 1, (fun _ _ => 0), (fun _ _ => 0), yJx4a65c_size_8abf5, spOf (MJx4a65c_size_8abf5 g)), (38, 0, 3, 0, 1, (fun _ _ => 0), (fun _ _ => 0), yX3_isIn, spOf (MX3_isIn g)), (111, 0, 1, 0, 2, (fun _ _ => 0), (fun _ _ => 0), yX3_isNoCard, spOf (MX3_isNoCard g)), (54, 2, 3, 7, 2, (fun _ _ => 0), (fun _ _ => 0), yX3_start, spOf (MX3_start g)), (118, 2, 2, 7, 4, (fun _ _ => 0), (fun _ _ => 0), yX3_isBare, spOf (MX3_isBare g)), (92, 0, 1, 0, 1, (fun _ _ => 0), (fun _ _ => 0), yX3_one, spOf (MX3_one g)), (42, 2, 2, 3, 3, (fun _ _ => 0), (fun _ _ => 0), yJx4a65c_get_915e3, spOf (MJx4a65c_get_915e3 g)), (104, 2, 3, 3, 3, (fun _ _ => 0), (fun _ _ => 0), yJx4a65c_set_bcc79, spOf (MJx4a65c_set_bcc79 g))], [], [(125, 0)], 0, [], [], g)
theorem eX3_pick_0 {g : RO} {Q : Ot → Hw → Prop} {w : Hw} {a : Int32} {st : List Value} {k n p : Nat} {l2 l3 : Option Value} : WP (MX3_pick g) Q (Prod.mk 0 (Prod.mk (List.cons (Option.some (Value.ref p)) (List.cons (Option.some (Value.int a)) (List.cons l2 (List.cons l3 List.nil)))) (Prod.mk st (Prod.mk w (Prod.mk k n))))) = go (rd g w p) 7 fun fs => ∃ v, fs[3]? = some v ∧ WP (MX3_pick g) Q (Prod.mk 7 (Prod.mk (List.cons (Option.some (Value.ref p)) (List.cons (Option.some (Value.int a)) (List.cons l2 (List.cons l3 List.nil)))) (Prod.mk (List.cons v (List.cons (Value.int 0) (List.cons (Value.int a) (List.cons (Value.ref p) st)))) (Prod.mk w (Prod.mk k n))))) := Eq.trans (alnR_e rfl (oy_42 qx_cX3_pick_0 0 rfl) rfl) (Eq.trans (iln_e rfl (oy_27 qx_cX3_pick_0 1 rfl) rfl) (Eq.trans (ic_0 rfl (oy_3 qx_cX3_pick_0 2 rfl)) (Eq.trans (alnR_e rfl (oy_42 qx_cX3_pick_0 3 rfl) rfl) (get_e rfl (oy_180 qx_cX3_pick_0 4 0 20 rfl rfl rfl rfl) rfl))))
theorem eX3_pick_7 {g : RO} {Q : Ot → Hw → Prop} {st : List Value} {w : Hw} {k n p : Nat} {l0 l1 l2 l3 : Option Value} : WP (MX3_pick g) Q (Prod.mk 7 (Prod.mk (List.cons l0 (List.cons l1 (List.cons l2 (List.cons l3 List.nil)))) (Prod.mk (List.cons (Value.ref p) st) (Prod.mk w (Prod.mk k n))))) = (go (rd g w p) 3 (fun _ => True) ∧ wt st ≤ 8 ∧ k + 0 ≤ 0 ∧ n + 0 ≤ 0 ∧ WP (MJx4a65c_size_8abf5 g) (kx (fun v w' => WP (MX3_pick g) Q (Prod.mk 10 (Prod.mk (List.cons l0 (List.cons l1 (List.cons l2 (List.cons l3 List.nil)))) (Prod.mk (v.toList ++ st) (Prod.mk w' (Prod.mk (k + 0) (n + 0))))))) (fun E w' => Q (.inr E) w')) (Prod.mk 0 (Prod.mk (List.cons (Option.some (Value.ref p)) List.nil) (Prod.mk List.nil (Prod.mk w (Prod.mk 0 0)))))) := csV0 (M := (MX3_pick g)) (mc := (fun _ _ => 0)) (ms := (fun _ _ => 0)) (As := []) (rest := st) (MJx4a65c_size_8abf5 g) rfl rfl rfl (oy_182 qx_cX3_pick_0 7 0 174 rfl rfl rfl rfl) rfl rfl rfl rfl rfl rfl
theorem eX3_pick_10 {g : RO} {Q : Ot → Hw → Prop} {st : List Value} {w : Hw} {k n : Nat} {l0 l1 l2 l3 : Option Value} : WP (MX3_pick g) Q (Prod.mk 10 (Prod.mk (List.cons l0 (List.cons l1 (List.cons l2 (List.cons l3 List.nil)))) (Prod.mk st (Prod.mk w (Prod.mk k n))))) = WP (MX3_pick g) Q (Prod.mk 11 (Prod.mk (List.cons l0 (List.cons l1 (List.cons l2 (List.cons l3 List.nil)))) (Prod.mk (List.cons (Value.int 1) st) (Prod.mk w (Prod.mk k n))))) := ic_1 rfl (oy_4 qx_cX3_pick_0 10 rfl)
theorem eX3_pick_11 {g : RO} {Q : Ot → Hw → Prop} {w : Hw} {a b z0 z1 : Int32} {st : List Value} {k n : Nat} {l0 l1 l2 l3 : Option Value} : WP (MX3_pick g) Q (Prod.mk 11 (Prod.mk (List.cons l0 (List.cons l1 (List.cons l2 (List.cons l3 List.nil)))) (Prod.mk (List.cons (Value.int b) (List.cons (Value.int a) (List.cons (Value.int z1) (List.cons (Value.int z0) st)))) (Prod.mk w (Prod.mk k n))))) = (wt st ≤ 8 ∧ k + 0 ≤ 0 ∧ n + 0 ≤ 0 ∧ WP (MX3_isIn g) (kx (fun v w' => WP (MX3_pick g) Q (Prod.mk 15 (Prod.mk (List.cons l0 (List.cons l1 (List.cons l2 (List.cons l3 List.nil)))) (Prod.mk (v.toList ++ st) (Prod.mk w' (Prod.mk (k + 0) (n + 0))))))) (fun E w' => Q (.inr E) w')) (Prod.mk 0 (Prod.mk (List.cons (Option.some (Value.int z0)) (List.cons (Option.some (Value.int z1)) (List.cons (Option.some (Value.int (a - b))) List.nil))) (Prod.mk List.nil (Prod.mk w (Prod.mk 0 0)))))) := Eq.trans (isub_e rfl (oy_100 qx_cX3_pick_0 11 rfl)) (csS0 (M := (MX3_pick g)) (mc := (fun _ _ => 0)) (ms := (fun _ _ => 0)) (As := [.int z0, .int z1, .int (a - b)]) (rest := st) (MX3_isIn g) rfl rfl rfl (oy_184 qx_cX3_pick_0 12 0 38 rfl rfl rfl rfl) rfl rfl rfl rfl rfl rfl rfl)
theorem eX3_pick_15 {g : RO} {Q : Ot → Hw → Prop} {st : List Value} {w : Hw} {k n : Nat} {a : Int32} {l0 l1 l2 l3 : Option Value} : WP (MX3_pick g) Q (Prod.mk 15 (Prod.mk (List.cons l0 (List.cons l1 (List.cons l2 (List.cons l3 List.nil)))) (Prod.mk (List.cons (Value.int a) st) (Prod.mk w (Prod.mk k n))))) = if a = 0 then WP (MX3_pick g) Q (Prod.mk 25 (Prod.mk (List.cons l0 (List.cons l1 (List.cons l2 (List.cons l3 List.nil)))) (Prod.mk st (Prod.mk w (Prod.mk k n))))) else WP (MX3_pick g) Q (Prod.mk 18 (Prod.mk (List.cons l0 (List.cons l1 (List.cons l2 (List.cons l3 List.nil)))) (Prod.mk st (Prod.mk w (Prod.mk k n))))) := ifc_e (a = 0) rfl (oy_153 qx_cX3_pick_0 15 0 10 rfl rfl rfl rfl) rfl (by decide)
theorem eX3_pick_18 {g : RO} {Q : Ot → Hw → Prop} {w : Hw} {z0 : Int32} {st : List Value} {k n : Nat} {l0 l1 l3 : Option Value} : WP (MX3_pick g) Q (Prod.mk 18 (Prod.mk (List.cons l0 (List.cons l1 (List.cons (Option.some (Value.int z0)) (List.cons l3 List.nil)))) (Prod.mk st (Prod.mk w (Prod.mk k n))))) = (wt st ≤ 8 ∧ k + 0 ≤ 0 ∧ n + 0 ≤ 0 ∧ WP (MX3_isNoCard g) (kx (fun v w' => WP (MX3_pick g) Q (Prod.mk 22 (Prod.mk (List.cons l0 (List.cons l1 (List.cons (Option.some (Value.int z0)) (List.cons l3 List.nil)))) (Prod.mk (v.toList ++ st) (Prod.mk w' (Prod.mk (k + 0) (n + 0))))))) (fun E w' => Q (.inr E) w')) (Prod.mk 0 (Prod.mk (List.cons (Option.some (Value.int z0)) List.nil) (Prod.mk List.nil (Prod.mk w (Prod.mk 0 0)))))) := Eq.trans (iln_e rfl (oy_28 qx_cX3_pick_0 18 rfl) rfl) (csS0 (M := (MX3_pick g)) (mc := (fun _ _ => 0)) (ms := (fun _ _ => 0)) (As := [.int z0]) (rest := st) (MX3_isNoCard g) rfl rfl rfl (oy_184 qx_cX3_pick_0 19 0 111 rfl rfl rfl rfl) rfl rfl rfl rfl rfl rfl rfl)
theorem eX3_pick_22 {g : RO} {Q : Ot → Hw → Prop} {st : List Value} {w : Hw} {k n : Nat} {a : Int32} {l0 l1 l2 l3 : Option Value} : WP (MX3_pick g) Q (Prod.mk 22 (Prod.mk (List.cons l0 (List.cons l1 (List.cons l2 (List.cons l3 List.nil)))) (Prod.mk (List.cons (Value.int a) st) (Prod.mk w (Prod.mk k n))))) = if a = 0 then WP (MX3_pick g) Q (Prod.mk 29 (Prod.mk (List.cons l0 (List.cons l1 (List.cons l2 (List.cons l3 List.nil)))) (Prod.mk st (Prod.mk w (Prod.mk k n))))) else WP (MX3_pick g) Q (Prod.mk 25 (Prod.mk (List.cons l0 (List.cons l1 (List.cons l2 (List.cons l3 List.nil)))) (Prod.mk st (Prod.mk w (Prod.mk k n))))) := ifc_e (a = 0) rfl (oy_153 qx_cX3_pick_0 22 0 7 rfl rfl rfl rfl) rfl (by decide)
theorem eX3_pick_25 {g : RO} {Q : Ot → Hw → Prop} {w : Hw} {st : List Value} {k n : Nat} {l0 l1 l2 l3 : Option Value} : WP (MX3_pick g) Q (Prod.mk 25 (Prod.mk (List.cons l0 (List.cons l1 (List.cons l2 (List.cons l3 List.nil)))) (Prod.mk st (Prod.mk w (Prod.mk k n))))) = WP (MX3_pick g) Q (Prod.mk 30 (Prod.mk (List.cons l0 (List.cons l1 (List.cons l2 (List.cons l3 List.nil)))) (Prod.mk (List.cons (Value.int 1) st) (Prod.mk w (Prod.mk k n))))) := Eq.trans (ic_1 rfl (oy_4 qx_cX3_pick_0 25 rfl)) (goto_e rfl (oy_167 qx_cX3_pick_0 26 0 4 rfl rfl rfl rfl) (by decide))
theorem eX3_pick_29 {g : RO} {Q : Ot → Hw → Prop} {st : List Value} {w : Hw} {k n : Nat} {l0 l1 l2 l3 : Option Value} : WP (MX3_pick g) Q (Prod.mk 29 (Prod.mk (List.cons l0 (List.cons l1 (List.cons l2 (List.cons l3 List.nil)))) (Prod.mk st (Prod.mk w (Prod.mk k n))))) = WP (MX3_pick g) Q (Prod.mk 30 (Prod.mk (List.cons l0 (List.cons l1 (List.cons l2 (List.cons l3 List.nil)))) (Prod.mk (List.cons (Value.int 0) st) (Prod.mk w (Prod.mk k n))))) := ic_0 rfl (oy_3 qx_cX3_pick_0 29 rfl)
theorem eX3_pick_30 {g : RO} {Q : Ot → Hw → Prop} {w : Hw} {z0 : Int32} {st : List Value} {k n p : Nat} {l0 l1 l2 l3 : Option Value} : WP (MX3_pick g) Q (Prod.mk 30 (Prod.mk (List.cons l0 (List.cons l1 (List.cons l2 (List.cons l3 List.nil)))) (Prod.mk (List.cons (Value.int z0) (List.cons (Value.ref p) st)) (Prod.mk w (Prod.mk k n))))) = (go (rd g w p) 7 (fun _ => True) ∧ wt st ≤ 8 ∧ k + 0 ≤ 0 ∧ n + 0 ≤ 0 ∧ WP (MX3_start g) (kx (fun v w' => WP (MX3_pick g) Q (Prod.mk 34 (Prod.mk (List.cons l0 (List.cons l1 (List.cons l2 (List.cons l3 List.nil)))) (Prod.mk (v.toList ++ st) (Prod.mk w' (Prod.mk (k + 0) (n + 0))))))) (fun E w' => Q (.inr E) w')) (Prod.mk 0 (Prod.mk (List.cons (Option.some (Value.ref p)) (List.cons (Option.some (Value.int z0)) (List.cons (Option.some (Value.int (1 : Int32))) List.nil))) (Prod.mk List.nil (Prod.mk w (Prod.mk 0 0)))))) := Eq.trans (ic_1 rfl (oy_4 qx_cX3_pick_0 30 rfl)) (csV0 (M := (MX3_pick g)) (mc := (fun _ _ => 0)) (ms := (fun _ _ => 0)) (As := [.int z0, .int (1 : Int32)]) (rest := st) (MX3_start g) rfl rfl rfl (oy_182 qx_cX3_pick_0 31 0 54 rfl rfl rfl rfl) rfl rfl rfl rfl rfl rfl)
theorem eX3_pick_34 {g : RO} {Q : Ot → Hw → Prop} {st : List Value} {w : Hw} {k n : Nat} {a : Int32} {l0 l1 l2 l3 : Option Value} : WP (MX3_pick g) Q (Prod.mk 34 (Prod.mk (List.cons l0 (List.cons l1 (List.cons l2 (List.cons l3 List.nil)))) (Prod.mk (List.cons (Value.int a) st) (Prod.mk w (Prod.mk k n))))) = if a = 0 then WP (MX3_pick g) Q (Prod.mk 39 (Prod.mk (List.cons l0 (List.cons l1 (List.cons l2 (List.cons l3 List.nil)))) (Prod.mk st (Prod.mk w (Prod.mk k n))))) else WP (MX3_pick g) Q (Prod.mk 37 (Prod.mk (List.cons l0 (List.cons l1 (List.cons l2 (List.cons l3 List.nil)))) (Prod.mk st (Prod.mk w (Prod.mk k n))))) := ifc_e (a = 0) rfl (oy_153 qx_cX3_pick_1 2 0 5 rfl rfl rfl rfl) rfl (by decide)
theorem eX3_pick_37 {g : RO} {Q : Ot → Hw → Prop} {w : Hw} {k n : Nat} {l0 l1 l2 l3 : Option Value} : WP (MX3_pick g) Q (Prod.mk 37 (Prod.mk (List.cons l0 (List.cons l1 (List.cons l2 (List.cons l3 List.nil)))) (Prod.mk List.nil (Prod.mk w (Prod.mk k n))))) = (k ≤ 0 ∧ n ≤ 0 ∧ Q (.inl (Option.some (Value.int (0 : Int32)))) w) := Eq.trans (ic_0 rfl (oy_3 qx_cX3_pick_1 5 rfl)) (iretI_e rfl (oy_172 qx_cX3_pick_1 6 rfl) rfl)
theorem eX3_pick_39 {g : RO} {Q : Ot → Hw → Prop} {w : Hw} {z0 : Int32} {st : List Value} {k n p : Nat} {l1 l3 : Option Value} : WP (MX3_pick g) Q (Prod.mk 39 (Prod.mk (List.cons (Option.some (Value.ref p)) (List.cons l1 (List.cons (Option.some (Value.int z0)) (List.cons l3 List.nil)))) (Prod.mk st (Prod.mk w (Prod.mk k n))))) = (go (rd g w p) 7 (fun _ => True) ∧ wt st ≤ 8 ∧ k + 0 ≤ 0 ∧ n + 0 ≤ 0 ∧ WP (MX3_isBare g) (kx (fun v w' => WP (MX3_pick g) Q (Prod.mk 44 (Prod.mk (List.cons (Option.some (Value.ref p)) (List.cons l1 (List.cons (Option.some (Value.int z0)) (List.cons l3 List.nil)))) (Prod.mk (v.toList ++ st) (Prod.mk w' (Prod.mk (k + 0) (n + 0))))))) (fun E w' => Q (.inr E) w')) (Prod.mk 0 (Prod.mk (List.cons (Option.some (Value.ref p)) (List.cons (Option.some (Value.int z0)) List.nil)) (Prod.mk List.nil (Prod.mk w (Prod.mk 0 0)))))) := Eq.trans (alnR_e rfl (oy_42 qx_cX3_pick_1 7 rfl) rfl) (Eq.trans (iln_e rfl (oy_28 qx_cX3_pick_1 8 rfl) rfl) (csV0 (M := (MX3_pick g)) (mc := (fun _ _ => 0)) (ms := (fun _ _ => 0)) (As := [.int z0]) (rest := st) (MX3_isBare g) rfl rfl rfl (oy_182 qx_cX3_pick_1 9 0 118 rfl rfl rfl rfl) rfl rfl rfl rfl rfl rfl))
theorem eX3_pick_44 {g : RO} {Q : Ot → Hw → Prop} {st : List Value} {w : Hw} {k n : Nat} {a : Int32} {l0 l1 l2 l3 : Option Value} : WP (MX3_pick g) Q (Prod.mk 44 (Prod.mk (List.cons l0 (List.cons l1 (List.cons l2 (List.cons l3 List.nil)))) (Prod.mk (List.cons (Value.int a) st) (Prod.mk w (Prod.mk k n))))) = if a = 0 then WP (MX3_pick g) Q (Prod.mk 47 (Prod.mk (List.cons l0 (List.cons l1 (List.cons l2 (List.cons l3 List.nil)))) (Prod.mk st (Prod.mk w (Prod.mk k n))))) else WP (MX3_pick g) Q (Prod.mk 51 (Prod.mk (List.cons l0 (List.cons l1 (List.cons l2 (List.cons l3 List.nil)))) (Prod.mk st (Prod.mk w (Prod.mk k n))))) := ifcn_e (a = 0) rfl (oy_154 qx_cX3_pick_1 12 0 7 rfl rfl rfl rfl) rfl (by decide)
theorem eX3_pick_47 {g : RO} {Q : Ot → Hw → Prop} {w : Hw} {st : List Value} {k n : Nat} {l0 l1 l2 l3 : Option Value} : WP (MX3_pick g) Q (Prod.mk 47 (Prod.mk (List.cons l0 (List.cons l1 (List.cons l2 (List.cons l3 List.nil)))) (Prod.mk st (Prod.mk w (Prod.mk k n))))) = WP (MX3_pick g) Q (Prod.mk 52 (Prod.mk (List.cons l0 (List.cons l1 (List.cons l2 (List.cons l3 List.nil)))) (Prod.mk (List.cons (Value.int 1) st) (Prod.mk w (Prod.mk k n))))) := Eq.trans (ic_1 rfl (oy_4 qx_cX3_pick_1 15 rfl)) (goto_e rfl (oy_167 qx_cX3_pick_1 16 0 4 rfl rfl rfl rfl) (by decide))
theorem eX3_pick_51 {g : RO} {Q : Ot → Hw → Prop} {st : List Value} {w : Hw} {k n : Nat} {l0 l1 l2 l3 : Option Value} : WP (MX3_pick g) Q (Prod.mk 51 (Prod.mk (List.cons l0 (List.cons l1 (List.cons l2 (List.cons l3 List.nil)))) (Prod.mk st (Prod.mk w (Prod.mk k n))))) = WP (MX3_pick g) Q (Prod.mk 52 (Prod.mk (List.cons l0 (List.cons l1 (List.cons l2 (List.cons l3 List.nil)))) (Prod.mk (List.cons (Value.int 0) st) (Prod.mk w (Prod.mk k n))))) := ic_0 rfl (oy_3 qx_cX3_pick_1 19 rfl)
theorem eX3_pick_52 {g : RO} {Q : Ot → Hw → Prop} {st : List Value} {w : Hw} {k n : Nat} {l0 l1 l2 l3 : Option Value} {z0 : Int32} : WP (MX3_pick g) Q (Prod.mk 52 (Prod.mk (List.cons l0 (List.cons l1 (List.cons l2 (List.cons l3 List.nil)))) (Prod.mk (List.cons (Value.int z0) st) (Prod.mk w (Prod.mk k n))))) = (wt st ≤ 8 ∧ k + 0 ≤ 0 ∧ n + 0 ≤ 0 ∧ WP (MX3_one g) (kx (fun v w' => WP (MX3_pick g) Q (Prod.mk 55 (Prod.mk (List.cons l0 (List.cons l1 (List.cons l2 (List.cons l3 List.nil)))) (Prod.mk (v.toList ++ st) (Prod.mk w' (Prod.mk (k + 0) (n + 0))))))) (fun E w' => Q (.inr E) w')) (Prod.mk 0 (Prod.mk (List.cons (Option.some (Value.int z0)) List.nil) (Prod.mk List.nil (Prod.mk w (Prod.mk 0 0)))))) := csS0 (M := (MX3_pick g)) (mc := (fun _ _ => 0)) (ms := (fun _ _ => 0)) (As := [.int z0]) (rest := st) (MX3_one g) rfl rfl rfl (oy_184 qx_cX3_pick_1 20 0 92 rfl rfl rfl rfl) rfl rfl rfl rfl rfl rfl rfl
theorem eX3_pick_55 {g : RO} {Q : Ot → Hw → Prop} {w : Hw} {a : Int32} {st : List Value} {k n p : Nat} {l1 l2 l3 : Option Value} : WP (MX3_pick g) Q (Prod.mk 55 (Prod.mk (List.cons (Option.some (Value.ref p)) (List.cons l1 (List.cons l2 (List.cons l3 List.nil)))) (Prod.mk (List.cons (Value.int a) st) (Prod.mk w (Prod.mk k n))))) = go (rd g w p) 7 fun fs => ∃ v, fs[2]? = some v ∧ WP (MX3_pick g) Q (Prod.mk 60 (Prod.mk (List.cons (Option.some (Value.ref p)) (List.cons l1 (List.cons (nl l2) (List.cons (Option.some (Value.int a)) List.nil)))) (Prod.mk (List.cons v st) (Prod.mk w (Prod.mk k n))))) := Eq.trans (isn_e rfl (oy_62 qx_cX3_pick_1 23 rfl) rfl rfl) (Eq.trans (alnR_e rfl (oy_42 qx_cX3_pick_1 24 rfl) rfl) (get_e rfl (oy_180 qx_cX3_pick_1 25 0 16 rfl rfl rfl rfl) rfl))
theorem eX3_pick_60 {g : RO} {Q : Ot → Hw → Prop} {w : Hw} {a : Int32} {st : List Value} {k n p : Nat} {l1 l3 : Option Value} : WP (MX3_pick g) Q (Prod.mk 60 (Prod.mk (List.cons (Option.some (Value.ref p)) (List.cons l1 (List.cons (Option.some (Value.int a)) (List.cons l3 List.nil)))) (Prod.mk st (Prod.mk w (Prod.mk k n))))) = go (rd g w p) 7 fun fs => ∃ v, fs[3]? = some v ∧ WP (MX3_pick g) Q (Prod.mk 65 (Prod.mk (List.cons (Option.some (Value.ref p)) (List.cons l1 (List.cons (Option.some (Value.int a)) (List.cons l3 List.nil)))) (Prod.mk (List.cons v (List.cons (Value.int a) st)) (Prod.mk w (Prod.mk k n))))) := Eq.trans (iln_e rfl (oy_28 qx_cX3_pick_1 28 rfl) rfl) (Eq.trans (alnR_e rfl (oy_42 qx_cX3_pick_1 29 rfl) rfl) (get_e rfl (oy_180 qx_cX3_pick_1 30 0 20 rfl rfl rfl rfl) rfl))
theorem eX3_pick_65 {g : RO} {Q : Ot → Hw → Prop} {st : List Value} {w : Hw} {k n : Nat} {a : Int32} {l0 l2 l3 : Option Value} : WP (MX3_pick g) Q (Prod.mk 65 (Prod.mk (List.cons l0 (List.cons (Option.some (Value.int a)) (List.cons l2 (List.cons l3 List.nil)))) (Prod.mk st (Prod.mk w (Prod.mk k n))))) = WP (MX3_pick g) Q (Prod.mk 66 (Prod.mk (List.cons l0 (List.cons (Option.some (Value.int a)) (List.cons l2 (List.cons l3 List.nil)))) (Prod.mk (List.cons (Value.int a) st) (Prod.mk w (Prod.mk k n))))) := iln_e rfl (oy_27 qx_cX3_pick_2 1 rfl) rfl
theorem eX3_pick_66 {g : RO} {Q : Ot → Hw → Prop} {st : List Value} {w : Hw} {k n p : Nat} {l0 l1 l2 l3 : Option Value} {z0 : Int32} : WP (MX3_pick g) Q (Prod.mk 66 (Prod.mk (List.cons l0 (List.cons l1 (List.cons l2 (List.cons l3 List.nil)))) (Prod.mk (List.cons (Value.int z0) (List.cons (Value.ref p) st)) (Prod.mk w (Prod.mk k n))))) = (go (rd g w p) 3 (fun _ => True) ∧ wt st ≤ 8 ∧ k + 0 ≤ 0 ∧ n + 0 ≤ 0 ∧ WP (MJx4a65c_get_915e3 g) (kx (fun v w' => WP (MX3_pick g) Q (Prod.mk 69 (Prod.mk (List.cons l0 (List.cons l1 (List.cons l2 (List.cons l3 List.nil)))) (Prod.mk (v.toList ++ st) (Prod.mk w' (Prod.mk (k + 0) (n + 0))))))) (fun E w' => Q (.inr E) w')) (Prod.mk 0 (Prod.mk (List.cons (Option.some (Value.ref p)) (List.cons (Option.some (Value.int z0)) List.nil)) (Prod.mk List.nil (Prod.mk w (Prod.mk 0 0)))))) := csV0 (M := (MX3_pick g)) (mc := (fun _ _ => 0)) (ms := (fun _ _ => 0)) (As := [.int z0]) (rest := st) (MJx4a65c_get_915e3 g) rfl rfl rfl (oy_182 qx_cX3_pick_2 2 0 42 rfl rfl rfl rfl) rfl rfl rfl rfl rfl rfl
theorem eX3_pick_69R {g : RO} {Q : Ot → Hw → Prop} {st : List Value} {w : Hw} {k n p : Nat} {l0 l1 l2 l3 : Option Value} : WP (MX3_pick g) Q (Prod.mk 69 (Prod.mk (List.cons l0 (List.cons l1 (List.cons l2 (List.cons l3 List.nil)))) (Prod.mk (List.cons (Value.ref p) st) (Prod.mk w (Prod.mk k n))))) = ((∃ x, w p = Option.some (.inl (0, x))) ∧ WP (MX3_pick g) Q (Prod.mk 72 (Prod.mk (List.cons l0 (List.cons l1 (List.cons l2 (List.cons l3 List.nil)))) (Prod.mk (List.cons (Value.ref p) st) (Prod.mk w (Prod.mk k n)))))) := castR_e rfl (oy_192 qx_cX3_pick_2 5 0 125 rfl rfl rfl rfl) rfl
theorem eX3_pick_72R {g : RO} {Q : Ot → Hw → Prop} {st : List Value} {w : Hw} {k n p : Nat} {l0 l1 l2 l3 : Option Value} {z0 : Int32} {z1 : Nat} : WP (MX3_pick g) Q (Prod.mk 72 (Prod.mk (List.cons l0 (List.cons l1 (List.cons l2 (List.cons l3 List.nil)))) (Prod.mk (List.cons (Value.ref z1) (List.cons (Value.int z0) (List.cons (Value.ref p) st))) (Prod.mk w (Prod.mk k n))))) = (go (rd g w p) 3 (fun _ => True) ∧ wt st ≤ 8 ∧ k + 0 ≤ 0 ∧ n + 0 ≤ 0 ∧ WP (MJx4a65c_set_bcc79 g) (kx (fun v w' => WP (MX3_pick g) Q (Prod.mk 75 (Prod.mk (List.cons l0 (List.cons l1 (List.cons l2 (List.cons l3 List.nil)))) (Prod.mk (v.toList ++ st) (Prod.mk w' (Prod.mk (k + 0) (n + 0))))))) (fun E w' => Q (.inr E) w')) (Prod.mk 0 (Prod.mk (List.cons (Option.some (Value.ref p)) (List.cons (Option.some (Value.int z0)) (List.cons (Option.some (Value.ref z1)) (List.cons none List.nil)))) (Prod.mk List.nil (Prod.mk w (Prod.mk 0 0)))))) := csV0 (M := (MX3_pick g)) (mc := (fun _ _ => 0)) (ms := (fun _ _ => 0)) (As := [.int z0, .ref z1]) (rest := st) (MJx4a65c_set_bcc79 g) rfl rfl rfl (oy_182 qx_cX3_pick_2 8 0 104 rfl rfl rfl rfl) rfl rfl rfl rfl rfl rfl
theorem eX3_pick_75R {g : RO} {Q : Ot → Hw → Prop} {st : List Value} {w : Hw} {k n p : Nat} {l0 l1 l2 l3 : Option Value} : WP (MX3_pick g) Q (Prod.mk 75 (Prod.mk (List.cons l0 (List.cons l1 (List.cons l2 (List.cons l3 List.nil)))) (Prod.mk (List.cons (Value.ref p) st) (Prod.mk w (Prod.mk k n))))) = WP (MX3_pick g) Q (Prod.mk 76 (Prod.mk (List.cons l0 (List.cons l1 (List.cons l2 (List.cons l3 List.nil)))) (Prod.mk st (Prod.mk w (Prod.mk k n))))) := popR_e rfl (oy_87 qx_cX3_pick_2 11 rfl)
theorem eX3_pick_75N {g : RO} {Q : Ot → Hw → Prop} {st : List Value} {w : Hw} {k n : Nat} {l0 l1 l2 l3 : Option Value} : WP (MX3_pick g) Q (Prod.mk 75 (Prod.mk (List.cons l0 (List.cons l1 (List.cons l2 (List.cons l3 List.nil)))) (Prod.mk (List.cons Value.null st) (Prod.mk w (Prod.mk k n))))) = WP (MX3_pick g) Q (Prod.mk 76 (Prod.mk (List.cons l0 (List.cons l1 (List.cons l2 (List.cons l3 List.nil)))) (Prod.mk st (Prod.mk w (Prod.mk k n))))) := popN_e rfl (oy_87 qx_cX3_pick_2 11 rfl)
set_option maxRecDepth 20000 in
theorem eX3_pick_76 {g : RO} {Q : Ot → Hw → Prop} {w : Hw} {a : Int32} {k n : Nat} {l0 l1 l2 : Option Value} : WP (MX3_pick g) Q (Prod.mk 76 (Prod.mk (List.cons l0 (List.cons l1 (List.cons l2 (List.cons (Option.some (Value.int a)) List.nil)))) (Prod.mk List.nil (Prod.mk w (Prod.mk k n))))) = (k ≤ 0 ∧ n ≤ 0 ∧ Q (.inl (Option.some (Value.int a))) w) := Eq.trans (iln_e rfl (oy_29 qx_cX3_pick_2 12 rfl) rfl) (iretI_e rfl (oy_172 qx_cX3_pick_2 13 rfl) rfl)
theorem vMX3_pick {l : Launch} (hl : l.stackTraces = false) (G : GT) : vM l G (MX3_pick (gg G)) := vM_k RX3 cX3_pick rfl rfl (all_c (vF_RX3_20) (all_c (vF_RX3_16) (all_n))) all_n all_n all_n all_n (fun h => absurd rfl h) (all_c (kc_68 hl wk_1520) (all_c (kc_36 hl wk_1225) (all_c (kc_51 hl wk_1318) (all_c (kc_39 hl wk_1228) (all_c (kc_53 hl wk_1372) (all_c (kc_47 hl wk_1311) (all_c (kc_37 hl wk_1376) (all_c (kc_50 hl wk_1332) (all_n))))))))) all_n (all_c (⟨.long, rfl, (fun C h => by cases h), wk_1380⟩) (all_n)) (fun h => absurd rfl h) rfl all_n
theorem okX3_pick {l : Launch} (hl : l.stackTraces = false) {G : GT} : ∀ (args : List Value) (w : Hw) (S : Ot → Hw → Prop), spOf (MX3_pick (gg G)) args w S → CX l G yX3_pick (.code yX3_pick cX3_pick 4 (some .int)) 5 0 0 args w S := CX_sp (M := MX3_pick (gg G)) (y := yX3_pick) hl pn15 rfl (vMX3_pick hl G) (fun h => by cases h) rfl
theorem qx_cX3_turn_0 : ((cX3_turn.data.toList.drop 0).take 38).map UInt8.toNat = [42, 3, 181, 0, 27, 187, 0, 13, 89, 183, 0, 15, 76, 42, 180, 0, 20, 182, 0, 181, 77, 44, 185, 0, 185, 1, 0, 153, 0, 22, 44, 185, 0, 191, 1, 0, 192, 0] := by decide +kernel
theorem qx_cX3_turn_1 : ((cX3_turn.data.toList.drop 32).take 38).map UInt8.toNat = [0, 191, 1, 0, 192, 0, 125, 78, 43, 3, 45, 182, 0, 201, 167, 255, 231, 42, 43, 181, 0, 20, 42, 180, 0, 20, 182, 0, 174, 172] := by decide +kernel
theorem dX3_turn_22 : decode cX3_turn 22 = .ok (.invokeinterface 185 1, 5) := by decide +kernel
theorem dX3_turn_31 : decode cX3_turn 31 = .ok (.invokeinterface 191 1, 5) := by decide +kernel
noncomputable def MX3_turn (g : RO) : MT := ((RX3, cX3_turn, 4, 6, 14, 187, false, some .int), [(27, 7, 0), (20, 7, 3)], [(13, 3, [.int 0, .null, .int 0])], [], [], [], 0, [(15, 4, 1, 3, 3, (fun _ _ => 0), (fun _ _ => 0), yJx4a65c_init_da8c8, spOf (MJx4a65c_init_da8c8 g)), (181, 2, 1, 3, 2, (fun _ _ => 1), (fun _ _ => 4), yJx4a65c_iterator_32c93, spOf (MJx4a65c_iterator_32c93 g)), (185, 6, 1, 2, 1, (fun _ _ => 0), (fun _ _ => 0), yJx35411_hasNext_aae02, spOf (MJx35411_hasNext_aae02 g)), (191, 6, 1, 2, 2, (fun _ _ => 0), (fun _ _ => 0), yJx35411_next_0502b, spOf (MJx35411_next_0502b g)), (201, 2, 3, 3, 5, (fun _ _ => 1), (fun _ _ => 15), yJx4a65c_add_7a177, spOf (MJx4a65c_add_7a177 g)), (174, 2, 1, 3, 1, (fun _ _ => 0), (fun _ _ => 0), yJx4a65c_size_8abf5, spOf (MJx4a65c_size_8abf5 g))], [], [(125, 0)], 0, [], [], g)
theorem eX3_turn_0 {g : RO} {Q : Ot → Hw → Prop} {w : Hw} {st : List Value} {k n p : Nat} {l1 l2 l3 : Option Value} : WP (MX3_turn g) Q (Prod.mk 0 (Prod.mk (List.cons (Option.some (Value.ref p)) (List.cons l1 (List.cons l2 (List.cons l3 List.nil)))) (Prod.mk st (Prod.mk w (Prod.mk k n))))) = go (w p) 7 fun fs => 0 < fs.length ∧ (narrow (.int) (Value.int 0) = (Value.int 0) ∧ fits (.int) (Value.int 0) = true) ∧ WP (MX3_turn g) Q (Prod.mk 5 (Prod.mk (List.cons (Option.some (Value.ref p)) (List.cons l1 (List.cons l2 (List.cons l3 List.nil)))) (Prod.mk st (Prod.mk (upw w p (.inr (7, fs.set 0 (Value.int 0)))) (Prod.mk k n))))) := Eq.trans (alnR_e rfl (oy_42 qx_cX3_turn_0 0 rfl) rfl) (Eq.trans (ic_0 rfl (oy_3 qx_cX3_turn_0 1 rfl)) (put_e (q := (RX3, TX3, 7)) rfl (oy_181 qx_cX3_turn_0 2 0 27 rfl rfl rfl rfl) rfl rfl (tyX3_ok 0 (by decide)) (Or.inl rfl)))
theorem eX3_turn_5 {g : RO} {Q : Ot → Hw → Prop} {st : List Value} {w : Hw} {k n : Nat} {l0 l1 l2 l3 : Option Value} : WP (MX3_turn g) Q (Prod.mk 5 (Prod.mk (List.cons l0 (List.cons l1 (List.cons l2 (List.cons l3 List.nil)))) (Prod.mk st (Prod.mk w (Prod.mk k n))))) = (k + 1 ≤ 14 ∧ n + 3 ≤ 187 ∧ ∀ q : Nat, rd g w q = none → WP (MX3_turn g) Q (Prod.mk 8 (Prod.mk (List.cons l0 (List.cons l1 (List.cons l2 (List.cons l3 List.nil)))) (Prod.mk (List.cons (Value.ref q) st) (Prod.mk (upw w q (.inr (3, [Value.int 0, Value.null, Value.int 0]))) (Prod.mk (k + 1) (n + 3))))))) := Eq.trans (new_e (M := (MX3_turn g)) (fs := [.int 0, .null, .int 0]) rfl (oy_187 qx_cX3_turn_0 5 0 13 rfl rfl rfl rfl) rfl) rfl
theorem eX3_turn_8R {g : RO} {Q : Ot → Hw → Prop} {w : Hw} {st : List Value} {k n p : Nat} {l0 l1 l2 l3 : Option Value} : WP (MX3_turn g) Q (Prod.mk 8 (Prod.mk (List.cons l0 (List.cons l1 (List.cons l2 (List.cons l3 List.nil)))) (Prod.mk (List.cons (Value.ref p) st) (Prod.mk w (Prod.mk k n))))) = (wt (List.cons (Value.ref p) st) ≤ 8 ∧ k + 0 ≤ 14 ∧ n + 0 ≤ 187 ∧ WP (MJx4a65c_init_da8c8 g) (kx (fun v w' => WP (MX3_turn g) Q (Prod.mk 12 (Prod.mk (List.cons l0 (List.cons l1 (List.cons l2 (List.cons l3 List.nil)))) (Prod.mk (v.toList ++ (List.cons (Value.ref p) st)) (Prod.mk w' (Prod.mk (k + 0) (n + 0))))))) (fun E w' => Q (.inr E) w')) (Prod.mk 0 (Prod.mk (List.cons (Option.some (Value.ref p)) List.nil) (Prod.mk List.nil (Prod.mk w (Prod.mk 0 0)))))) := Eq.trans (dupR_e rfl (oy_89 qx_cX3_turn_0 8 rfl)) (csI (M := (MX3_turn g)) (mc := (fun _ _ => 0)) (ms := (fun _ _ => 0)) (As := []) (rest := (List.cons (Value.ref p) st)) (MJx4a65c_init_da8c8 g) rfl rfl (oy_183 qx_cX3_turn_0 9 0 15 rfl rfl rfl rfl) (Nat.ne_of_beq_eq_false rfl) rfl rfl (Nat.le_of_ble_eq_true rfl) (Nat.le_of_ble_eq_true rfl) rfl)
theorem eX3_turn_12 {g : RO} {Q : Ot → Hw → Prop} {st : List Value} {w : Hw} {k n p : Nat} {l0 l1 l2 l3 : Option Value} : WP (MX3_turn g) Q (Prod.mk 12 (Prod.mk (List.cons l0 (List.cons l1 (List.cons l2 (List.cons l3 List.nil)))) (Prod.mk (List.cons (Value.ref p) st) (Prod.mk w (Prod.mk k n))))) = WP (MX3_turn g) Q (Prod.mk 13 (Prod.mk (List.cons (nl l0) (List.cons (Option.some (Value.ref p)) (List.cons l2 (List.cons l3 List.nil)))) (Prod.mk st (Prod.mk w (Prod.mk k n))))) := asnR_e rfl (oy_76 qx_cX3_turn_0 12 rfl) rfl rfl
theorem eX3_turn_13 {g : RO} {Q : Ot → Hw → Prop} {w : Hw} {st : List Value} {k n p : Nat} {l1 l2 l3 : Option Value} : WP (MX3_turn g) Q (Prod.mk 13 (Prod.mk (List.cons (Option.some (Value.ref p)) (List.cons l1 (List.cons l2 (List.cons l3 List.nil)))) (Prod.mk st (Prod.mk w (Prod.mk k n))))) = go (rd g w p) 7 fun fs => ∃ v, fs[3]? = some v ∧ WP (MX3_turn g) Q (Prod.mk 17 (Prod.mk (List.cons (Option.some (Value.ref p)) (List.cons l1 (List.cons l2 (List.cons l3 List.nil)))) (Prod.mk (List.cons v st) (Prod.mk w (Prod.mk k n))))) := Eq.trans (alnR_e rfl (oy_42 qx_cX3_turn_0 13 rfl) rfl) (get_e rfl (oy_180 qx_cX3_turn_0 14 0 20 rfl rfl rfl rfl) rfl)
theorem eX3_turn_17 {g : RO} {Q : Ot → Hw → Prop} {st : List Value} {w : Hw} {k n p : Nat} {l0 l1 l2 l3 : Option Value} : WP (MX3_turn g) Q (Prod.mk 17 (Prod.mk (List.cons l0 (List.cons l1 (List.cons l2 (List.cons l3 List.nil)))) (Prod.mk (List.cons (Value.ref p) st) (Prod.mk w (Prod.mk k n))))) = (go (rd g w p) 3 (fun _ => True) ∧ wt st ≤ 8 ∧ k + 1 ≤ 14 ∧ n + 4 ≤ 187 ∧ WP (MJx4a65c_iterator_32c93 g) (kx (fun v w' => WP (MX3_turn g) Q (Prod.mk 20 (Prod.mk (List.cons l0 (List.cons l1 (List.cons l2 (List.cons l3 List.nil)))) (Prod.mk (v.toList ++ st) (Prod.mk w' (Prod.mk (k + 1) (n + 4))))))) (fun E w' => Q (.inr E) w')) (Prod.mk 0 (Prod.mk (List.cons (Option.some (Value.ref p)) List.nil) (Prod.mk List.nil (Prod.mk w (Prod.mk 0 0)))))) := csV0 (M := (MX3_turn g)) (mc := (fun _ _ => 1)) (ms := (fun _ _ => 4)) (As := []) (rest := st) (MJx4a65c_iterator_32c93 g) rfl rfl rfl (oy_182 qx_cX3_turn_0 17 0 181 rfl rfl rfl rfl) rfl rfl rfl rfl rfl rfl
theorem eX3_turn_20 {g : RO} {Q : Ot → Hw → Prop} {st : List Value} {w : Hw} {k n p : Nat} {l0 l1 l2 l3 : Option Value} : WP (MX3_turn g) Q (Prod.mk 20 (Prod.mk (List.cons l0 (List.cons l1 (List.cons l2 (List.cons l3 List.nil)))) (Prod.mk (List.cons (Value.ref p) st) (Prod.mk w (Prod.mk k n))))) = WP (MX3_turn g) Q (Prod.mk 21 (Prod.mk (List.cons l0 (List.cons (nl l1) (List.cons (Option.some (Value.ref p)) (List.cons l3 List.nil)))) (Prod.mk st (Prod.mk w (Prod.mk k n))))) := asnR_e rfl (oy_77 qx_cX3_turn_0 20 rfl) rfl rfl
theorem eX3_turn_21 {g : RO} {Q : Ot → Hw → Prop} {st : List Value} {w : Hw} {k n p : Nat} {l0 l1 l3 : Option Value} : WP (MX3_turn g) Q (Prod.mk 21 (Prod.mk (List.cons l0 (List.cons l1 (List.cons (Option.some (Value.ref p)) (List.cons l3 List.nil)))) (Prod.mk st (Prod.mk w (Prod.mk k n))))) = WP (MX3_turn g) Q (Prod.mk 22 (Prod.mk (List.cons l0 (List.cons l1 (List.cons (Option.some (Value.ref p)) (List.cons l3 List.nil)))) (Prod.mk (List.cons (Value.ref p) st) (Prod.mk w (Prod.mk k n))))) := alnR_e rfl (oy_44 qx_cX3_turn_0 21 rfl) rfl
theorem eX3_turn_22 {g : RO} {Q : Ot → Hw → Prop} {st : List Value} {w : Hw} {k n p : Nat} {l0 l1 l2 l3 : Option Value} : WP (MX3_turn g) Q (Prod.mk 22 (Prod.mk (List.cons l0 (List.cons l1 (List.cons l2 (List.cons l3 List.nil)))) (Prod.mk (List.cons (Value.ref p) st) (Prod.mk w (Prod.mk k n))))) = (go (rd g w p) 2 (fun _ => True) ∧ wt st ≤ 8 ∧ k + 0 ≤ 14 ∧ n + 0 ≤ 187 ∧ WP (MJx35411_hasNext_aae02 g) (kx (fun v w' => WP (MX3_turn g) Q (Prod.mk 27 (Prod.mk (List.cons l0 (List.cons l1 (List.cons l2 (List.cons l3 List.nil)))) (Prod.mk (v.toList ++ st) (Prod.mk w' (Prod.mk (k + 0) (n + 0))))))) (fun E w' => Q (.inr E) w')) (Prod.mk 0 (Prod.mk (List.cons (Option.some (Value.ref p)) List.nil) (Prod.mk List.nil (Prod.mk w (Prod.mk 0 0)))))) := csF (M := (MX3_turn g)) (mc := (fun _ _ => 0)) (ms := (fun _ _ => 0)) (As := []) (rest := st) (MJx35411_hasNext_aae02 g) rfl rfl dX3_turn_22 rfl rfl (Nat.le_of_ble_eq_true rfl) (Nat.le_of_ble_eq_true rfl) rfl
theorem eX3_turn_27 {g : RO} {Q : Ot → Hw → Prop} {st : List Value} {w : Hw} {k n : Nat} {a : Int32} {l0 l1 l2 l3 : Option Value} : WP (MX3_turn g) Q (Prod.mk 27 (Prod.mk (List.cons l0 (List.cons l1 (List.cons l2 (List.cons l3 List.nil)))) (Prod.mk (List.cons (Value.int a) st) (Prod.mk w (Prod.mk k n))))) = if a = 0 then WP (MX3_turn g) Q (Prod.mk 49 (Prod.mk (List.cons l0 (List.cons l1 (List.cons l2 (List.cons l3 List.nil)))) (Prod.mk st (Prod.mk w (Prod.mk k n))))) else WP (MX3_turn g) Q (Prod.mk 30 (Prod.mk (List.cons l0 (List.cons l1 (List.cons l2 (List.cons l3 List.nil)))) (Prod.mk st (Prod.mk w (Prod.mk k n))))) := ifc_e (a = 0) rfl (oy_153 qx_cX3_turn_0 27 0 22 rfl rfl rfl rfl) rfl (by decide)
theorem eX3_turn_30 {g : RO} {Q : Ot → Hw → Prop} {w : Hw} {st : List Value} {k n p : Nat} {l0 l1 l3 : Option Value} : WP (MX3_turn g) Q (Prod.mk 30 (Prod.mk (List.cons l0 (List.cons l1 (List.cons (Option.some (Value.ref p)) (List.cons l3 List.nil)))) (Prod.mk st (Prod.mk w (Prod.mk k n))))) = (go (rd g w p) 2 (fun _ => True) ∧ wt st ≤ 8 ∧ k + 0 ≤ 14 ∧ n + 0 ≤ 187 ∧ WP (MJx35411_next_0502b g) (kx (fun v w' => WP (MX3_turn g) Q (Prod.mk 36 (Prod.mk (List.cons l0 (List.cons l1 (List.cons (Option.some (Value.ref p)) (List.cons l3 List.nil)))) (Prod.mk (v.toList ++ st) (Prod.mk w' (Prod.mk (k + 0) (n + 0))))))) (fun E w' => Q (.inr E) w')) (Prod.mk 0 (Prod.mk (List.cons (Option.some (Value.ref p)) (List.cons none (List.cons none List.nil))) (Prod.mk List.nil (Prod.mk w (Prod.mk 0 0)))))) := Eq.trans (alnR_e rfl (oy_44 qx_cX3_turn_0 30 rfl) rfl) (csF (M := (MX3_turn g)) (mc := (fun _ _ => 0)) (ms := (fun _ _ => 0)) (As := []) (rest := st) (MJx35411_next_0502b g) rfl rfl dX3_turn_31 rfl rfl (Nat.le_of_ble_eq_true rfl) (Nat.le_of_ble_eq_true rfl) rfl)
theorem eX3_turn_36R {g : RO} {Q : Ot → Hw → Prop} {st : List Value} {w : Hw} {k n p : Nat} {l0 l1 l2 l3 : Option Value} : WP (MX3_turn g) Q (Prod.mk 36 (Prod.mk (List.cons l0 (List.cons l1 (List.cons l2 (List.cons l3 List.nil)))) (Prod.mk (List.cons (Value.ref p) st) (Prod.mk w (Prod.mk k n))))) = ((∃ x, w p = Option.some (.inl (0, x))) ∧ WP (MX3_turn g) Q (Prod.mk 39 (Prod.mk (List.cons l0 (List.cons l1 (List.cons l2 (List.cons l3 List.nil)))) (Prod.mk (List.cons (Value.ref p) st) (Prod.mk w (Prod.mk k n)))))) := castR_e rfl (oy_192 qx_cX3_turn_1 4 0 125 rfl rfl rfl rfl) rfl
theorem eX3_turn_39 {g : RO} {Q : Ot → Hw → Prop} {w : Hw} {st : List Value} {k n p z1 : Nat} {l0 l2 l3 : Option Value} : WP (MX3_turn g) Q (Prod.mk 39 (Prod.mk (List.cons l0 (List.cons (Option.some (Value.ref p)) (List.cons l2 (List.cons l3 List.nil)))) (Prod.mk (List.cons (Value.ref z1) st) (Prod.mk w (Prod.mk k n))))) = (go (rd g w p) 3 (fun _ => True) ∧ wt st ≤ 8 ∧ k + 1 ≤ 14 ∧ n + 15 ≤ 187 ∧ WP (MJx4a65c_add_7a177 g) (kx (fun v w' => WP (MX3_turn g) Q (Prod.mk 46 (Prod.mk (List.cons l0 (List.cons (Option.some (Value.ref p)) (List.cons (nl l2) (List.cons (Option.some (Value.ref z1)) List.nil)))) (Prod.mk (v.toList ++ st) (Prod.mk w' (Prod.mk (k + 1) (n + 15))))))) (fun E w' => Q (.inr E) w')) (Prod.mk 0 (Prod.mk (List.cons (Option.some (Value.ref p)) (List.cons (Option.some (Value.int (0 : Int32))) (List.cons (Option.some (Value.ref z1)) (List.cons none (List.cons none List.nil))))) (Prod.mk List.nil (Prod.mk w (Prod.mk 0 0)))))) := Eq.trans (asnR_e rfl (oy_78 qx_cX3_turn_1 7 rfl) rfl rfl) (Eq.trans (alnR_e rfl (oy_43 qx_cX3_turn_1 8 rfl) rfl) (Eq.trans (ic_0 rfl (oy_3 qx_cX3_turn_1 9 rfl)) (Eq.trans (alnR_e rfl (oy_45 qx_cX3_turn_1 10 rfl) rfl) (csV0 (M := (MX3_turn g)) (mc := (fun _ _ => 1)) (ms := (fun _ _ => 15)) (As := [.int (0 : Int32), .ref z1]) (rest := st) (MJx4a65c_add_7a177 g) rfl rfl rfl (oy_182 qx_cX3_turn_1 11 0 201 rfl rfl rfl rfl) rfl rfl rfl rfl rfl rfl))))
theorem eX3_turn_46 {g : RO} {Q : Ot → Hw → Prop} {st : List Value} {w : Hw} {k n : Nat} {l0 l1 l2 l3 : Option Value} : WP (MX3_turn g) Q (Prod.mk 46 (Prod.mk (List.cons l0 (List.cons l1 (List.cons l2 (List.cons l3 List.nil)))) (Prod.mk st (Prod.mk w (Prod.mk k n))))) = WP (MX3_turn g) Q (Prod.mk 21 (Prod.mk (List.cons l0 (List.cons l1 (List.cons l2 (List.cons l3 List.nil)))) (Prod.mk st (Prod.mk w (Prod.mk k n))))) := goto_e rfl (oy_167 qx_cX3_turn_1 14 255 231 rfl rfl rfl rfl) (by decide)
theorem eX3_turn_49 {g : RO} {Q : Ot → Hw → Prop} {w : Hw} {st : List Value} {k n p px1 : Nat} {l2 l3 : Option Value} : WP (MX3_turn g) Q (Prod.mk 49 (Prod.mk (List.cons (Option.some (Value.ref px1)) (List.cons (Option.some (Value.ref p)) (List.cons l2 (List.cons l3 List.nil)))) (Prod.mk st (Prod.mk w (Prod.mk k n))))) = go (w px1) 7 fun fs => 3 < fs.length ∧ (narrow (tyX3 3) (Value.ref p) = (Value.ref p) ∧ fits (tyX3 3) (Value.ref p) = true) ∧ WP (MX3_turn g) Q (Prod.mk 54 (Prod.mk (List.cons (Option.some (Value.ref px1)) (List.cons (Option.some (Value.ref p)) (List.cons l2 (List.cons l3 List.nil)))) (Prod.mk st (Prod.mk (upw w px1 (.inr (7, fs.set 3 (Value.ref p)))) (Prod.mk k n))))) := Eq.trans (alnR_e rfl (oy_42 qx_cX3_turn_1 17 rfl) rfl) (Eq.trans (alnR_e rfl (oy_43 qx_cX3_turn_1 18 rfl) rfl) (put_e (q := (RX3, TX3, 7)) rfl (oy_181 qx_cX3_turn_1 19 0 20 rfl rfl rfl rfl) rfl rfl (tyX3_ok 3 (by decide)) (Or.inl rfl)))
theorem eX3_turn_54 {g : RO} {Q : Ot → Hw → Prop} {w : Hw} {st : List Value} {k n p : Nat} {l1 l2 l3 : Option Value} : WP (MX3_turn g) Q (Prod.mk 54 (Prod.mk (List.cons (Option.some (Value.ref p)) (List.cons l1 (List.cons l2 (List.cons l3 List.nil)))) (Prod.mk st (Prod.mk w (Prod.mk k n))))) = go (rd g w p) 7 fun fs => ∃ v, fs[3]? = some v ∧ WP (MX3_turn g) Q (Prod.mk 58 (Prod.mk (List.cons (Option.some (Value.ref p)) (List.cons l1 (List.cons l2 (List.cons l3 List.nil)))) (Prod.mk (List.cons v st) (Prod.mk w (Prod.mk k n))))) := Eq.trans (alnR_e rfl (oy_42 qx_cX3_turn_1 22 rfl) rfl) (get_e rfl (oy_180 qx_cX3_turn_1 23 0 20 rfl rfl rfl rfl) rfl)
theorem eX3_turn_58 {g : RO} {Q : Ot → Hw → Prop} {st : List Value} {w : Hw} {k n p : Nat} {l0 l1 l2 l3 : Option Value} : WP (MX3_turn g) Q (Prod.mk 58 (Prod.mk (List.cons l0 (List.cons l1 (List.cons l2 (List.cons l3 List.nil)))) (Prod.mk (List.cons (Value.ref p) st) (Prod.mk w (Prod.mk k n))))) = (go (rd g w p) 3 (fun _ => True) ∧ wt st ≤ 8 ∧ k + 0 ≤ 14 ∧ n + 0 ≤ 187 ∧ WP (MJx4a65c_size_8abf5 g) (kx (fun v w' => WP (MX3_turn g) Q (Prod.mk 61 (Prod.mk (List.cons l0 (List.cons l1 (List.cons l2 (List.cons l3 List.nil)))) (Prod.mk (v.toList ++ st) (Prod.mk w' (Prod.mk (k + 0) (n + 0))))))) (fun E w' => Q (.inr E) w')) (Prod.mk 0 (Prod.mk (List.cons (Option.some (Value.ref p)) List.nil) (Prod.mk List.nil (Prod.mk w (Prod.mk 0 0)))))) := csV0 (M := (MX3_turn g)) (mc := (fun _ _ => 0)) (ms := (fun _ _ => 0)) (As := []) (rest := st) (MJx4a65c_size_8abf5 g) rfl rfl rfl (oy_182 qx_cX3_turn_1 26 0 174 rfl rfl rfl rfl) rfl rfl rfl rfl rfl rfl
set_option maxRecDepth 20000 in
theorem eX3_turn_61 {g : RO} {Q : Ot → Hw → Prop} {w : Hw} {k n : Nat} {a : Int32} {l0 l1 l2 l3 : Option Value} : WP (MX3_turn g) Q (Prod.mk 61 (Prod.mk (List.cons l0 (List.cons l1 (List.cons l2 (List.cons l3 List.nil)))) (Prod.mk (List.cons (Value.int a) List.nil) (Prod.mk w (Prod.mk k n))))) = (k ≤ 14 ∧ n ≤ 187 ∧ Q (.inl (Option.some (Value.int a))) w) := iretI_e rfl (oy_172 qx_cX3_turn_1 29 rfl) rfl
theorem wk_1610 : (.code yJx4a65c_add_7a177 cJx4a65c_add_7a177 5 (none) : Jvm.Cond) ∈ WS := WS_t7 112 (by eq_refl) (by eq_refl)
theorem wk_1607 : (.methodLink RX3 201 yJx4a65c_add_7a177 : Jvm.Cond) ∈ WS := WS_t7 109 (by eq_refl) (by eq_refl)
theorem wk_1608 : (.instanceMethod yJx4a65c_add_7a177 : Jvm.Cond) ∈ WS := WS_t7 110 (by eq_refl) (by eq_refl)
theorem wk_1609 : (.selects RJx4a65c yJx4a65c_add_7a177 yJx4a65c_add_7a177 : Jvm.Cond) ∈ WS := WS_t7 111 (by eq_refl) (by eq_refl)
theorem pd49 : (parseMethodDescriptor "(ILjava/lang/Object;)V").map (fun d => d.parameters.length + 1) = some 3 := by decide +kernel
theorem kc_73 {l : Launch} (hl : l.stackTraces = false) {G : GT} {own : String} {i : Nat} (hw : Jvm.Cond.methodLink own i yJx4a65c_add_7a177 ∈ WS) : vCal l G own i (2, 3, 3, 5, (fun _ _ => 1), (fun _ _ => 15), yJx4a65c_add_7a177, spOf (MJx4a65c_add_7a177 (gg G))) := ⟨cJx4a65c_add_7a177, 5, none, fun y hy => by subst hy; exact ⟨Nat.le_of_ble_eq_true rfl, ⟨_, wk_1610, okJx4a65c_add_7a177 hl, Or.inl ⟨Nat.ne_of_beq_eq_false rfl, rfl⟩⟩, wk_63, nc6, ⟨pd49, hw, wk_1608, wk_1609, (RJx4a65c, TJx4a65c, 3), rfl, rfl⟩⟩⟩
theorem vMX3_turn {l : Launch} (hl : l.stackTraces = false) (G : GT) : vM l G (MX3_turn (gg G)) := vM_k RX3 cX3_turn rfl rfl (all_c (vF_RX3_27) (all_c (vF_RX3_20) (all_n))) (all_c (vN_RX3_13) (all_n)) all_n all_n all_n (fun h => absurd rfl h) (all_c (kc_33 hl wk_1122) (all_c (kc_70 hl wk_1540) (all_c (⟨cJx35411_hasNext_aae02, 1, some .boolean, fun y hy => by subst hy; exact ⟨Nat.le_of_ble_eq_true rfl, ⟨_, wk_1572, okJx35411_hasNext_aae02 hl, Or.inl ⟨Nat.ne_of_beq_eq_false rfl, rfl⟩⟩, wk_87, nc8, ⟨(⟨"java/util/Iterator", "hasNext", "()Z"⟩ : MethodName), (by decide +kernel : (parseMethodDescriptor (⟨"java/util/Iterator", "hasNext", "()Z"⟩ : MethodName).desc).map (fun d => d.parameters.length + 1) = some 1), wk_1564, wk_1570, (RJx35411, TJx35411, 4), rfl, wk_1568, (by decide : (RJx35411, (⟨"java/util/Iterator", "hasNext", "()Z"⟩ : MethodName), yJx35411_hasNext_aae02) ∈ IFL)⟩⟩⟩) (all_c (⟨cJx35411_next_0502b, 3, some (.object "java/lang/Object"), fun y hy => by subst hy; exact ⟨Nat.le_of_ble_eq_true rfl, ⟨_, wk_1581, okJx35411_next_0502b hl, Or.inl ⟨Nat.ne_of_beq_eq_false rfl, rfl⟩⟩, wk_87, nc8, ⟨(⟨"java/util/Iterator", "next", "()Ljava/lang/Object;"⟩ : MethodName), (by decide +kernel : (parseMethodDescriptor (⟨"java/util/Iterator", "next", "()Ljava/lang/Object;"⟩ : MethodName).desc).map (fun d => d.parameters.length + 1) = some 1), wk_1574, wk_1579, (RJx35411, TJx35411, 4), rfl, wk_1577, (by decide : (RJx35411, (⟨"java/util/Iterator", "next", "()Ljava/lang/Object;"⟩ : MethodName), yJx35411_next_0502b) ∈ IFL)⟩⟩⟩) (all_c (kc_73 hl wk_1607) (all_c (kc_68 hl wk_1520) (all_n))))))) all_n (all_c (⟨.long, rfl, (fun C h => by cases h), wk_1380⟩) (all_n)) (fun h => absurd rfl h) rfl all_n
theorem okX3_turn {l : Launch} (hl : l.stackTraces = false) {G : GT} : ∀ (args : List Value) (w : Hw) (S : Ot → Hw → Prop), spOf (MX3_turn (gg G)) args w S → CX l G yX3_turn (.code yX3_turn cX3_turn 4 (some .int)) 6 14 187 args w S := CX_sp (M := MX3_turn (gg G)) (y := yX3_turn) hl pn15 rfl (vMX3_turn hl G) (fun h => by cases h) rfl
theorem qx_cX3_sweep_0 : ((cX3_sweep.data.toList.drop 0).take 38).map UInt8.toNat = [42, 3, 181, 0, 27, 42, 180, 0, 20, 182, 0, 174, 60, 42, 187, 0, 13, 89, 183, 0, 15, 181, 0, 20, 27, 172] := by decide +kernel
noncomputable def MX3_sweep (g : RO) : MT := ((RX3, cX3_sweep, 2, 4, 1, 3, false, some .int), [(27, 7, 0), (20, 7, 3)], [(13, 3, [.int 0, .null, .int 0])], [], [], [], 0, [(174, 2, 1, 3, 1, (fun _ _ => 0), (fun _ _ => 0), yJx4a65c_size_8abf5, spOf (MJx4a65c_size_8abf5 g)), (15, 4, 1, 3, 3, (fun _ _ => 0), (fun _ _ => 0), yJx4a65c_init_da8c8, spOf (MJx4a65c_init_da8c8 g))], [], [], 0, [], [], g)
theorem eX3_sweep_0 {g : RO} {Q : Ot → Hw → Prop} {w : Hw} {st : List Value} {k n p : Nat} {l1 : Option Value} : WP (MX3_sweep g) Q (Prod.mk 0 (Prod.mk (List.cons (Option.some (Value.ref p)) (List.cons l1 List.nil)) (Prod.mk st (Prod.mk w (Prod.mk k n))))) = go (w p) 7 fun fs => 0 < fs.length ∧ (narrow (.int) (Value.int 0) = (Value.int 0) ∧ fits (.int) (Value.int 0) = true) ∧ WP (MX3_sweep g) Q (Prod.mk 5 (Prod.mk (List.cons (Option.some (Value.ref p)) (List.cons l1 List.nil)) (Prod.mk st (Prod.mk (upw w p (.inr (7, fs.set 0 (Value.int 0)))) (Prod.mk k n))))) := Eq.trans (alnR_e rfl (oy_42 qx_cX3_sweep_0 0 rfl) rfl) (Eq.trans (ic_0 rfl (oy_3 qx_cX3_sweep_0 1 rfl)) (put_e (q := (RX3, TX3, 7)) rfl (oy_181 qx_cX3_sweep_0 2 0 27 rfl rfl rfl rfl) rfl rfl (tyX3_ok 0 (by decide)) (Or.inl rfl)))
theorem eX3_sweep_5 {g : RO} {Q : Ot → Hw → Prop} {w : Hw} {st : List Value} {k n p : Nat} {l1 : Option Value} : WP (MX3_sweep g) Q (Prod.mk 5 (Prod.mk (List.cons (Option.some (Value.ref p)) (List.cons l1 List.nil)) (Prod.mk st (Prod.mk w (Prod.mk k n))))) = go (rd g w p) 7 fun fs => ∃ v, fs[3]? = some v ∧ WP (MX3_sweep g) Q (Prod.mk 9 (Prod.mk (List.cons (Option.some (Value.ref p)) (List.cons l1 List.nil)) (Prod.mk (List.cons v st) (Prod.mk w (Prod.mk k n))))) := Eq.trans (alnR_e rfl (oy_42 qx_cX3_sweep_0 5 rfl) rfl) (get_e rfl (oy_180 qx_cX3_sweep_0 6 0 20 rfl rfl rfl rfl) rfl)
theorem eX3_sweep_9 {g : RO} {Q : Ot → Hw → Prop} {st : List Value} {w : Hw} {k n p : Nat} {l0 l1 : Option Value} : WP (MX3_sweep g) Q (Prod.mk 9 (Prod.mk (List.cons l0 (List.cons l1 List.nil)) (Prod.mk (List.cons (Value.ref p) st) (Prod.mk w (Prod.mk k n))))) = (go (rd g w p) 3 (fun _ => True) ∧ wt st ≤ 8 ∧ k + 0 ≤ 1 ∧ n + 0 ≤ 3 ∧ WP (MJx4a65c_size_8abf5 g) (kx (fun v w' => WP (MX3_sweep g) Q (Prod.mk 12 (Prod.mk (List.cons l0 (List.cons l1 List.nil)) (Prod.mk (v.toList ++ st) (Prod.mk w' (Prod.mk (k + 0) (n + 0))))))) (fun E w' => Q (.inr E) w')) (Prod.mk 0 (Prod.mk (List.cons (Option.some (Value.ref p)) List.nil) (Prod.mk List.nil (Prod.mk w (Prod.mk 0 0)))))) := csV0 (M := (MX3_sweep g)) (mc := (fun _ _ => 0)) (ms := (fun _ _ => 0)) (As := []) (rest := st) (MJx4a65c_size_8abf5 g) rfl rfl rfl (oy_182 qx_cX3_sweep_0 9 0 174 rfl rfl rfl rfl) rfl rfl rfl rfl rfl rfl
theorem eX3_sweep_12 {g : RO} {Q : Ot → Hw → Prop} {st : List Value} {w : Hw} {k n : Nat} {a : Int32} {l0 l1 : Option Value} : WP (MX3_sweep g) Q (Prod.mk 12 (Prod.mk (List.cons l0 (List.cons l1 List.nil)) (Prod.mk (List.cons (Value.int a) st) (Prod.mk w (Prod.mk k n))))) = WP (MX3_sweep g) Q (Prod.mk 13 (Prod.mk (List.cons (nl l0) (List.cons (Option.some (Value.int a)) List.nil)) (Prod.mk st (Prod.mk w (Prod.mk k n))))) := isn_e rfl (oy_60 qx_cX3_sweep_0 12 rfl) rfl rfl
theorem eX3_sweep_13 {g : RO} {Q : Ot → Hw → Prop} {w : Hw} {st : List Value} {k n p : Nat} {l1 : Option Value} : WP (MX3_sweep g) Q (Prod.mk 13 (Prod.mk (List.cons (Option.some (Value.ref p)) (List.cons l1 List.nil)) (Prod.mk st (Prod.mk w (Prod.mk k n))))) = (k + 1 ≤ 1 ∧ n + 3 ≤ 3 ∧ ∀ q : Nat, rd g w q = none → WP (MX3_sweep g) Q (Prod.mk 17 (Prod.mk (List.cons (Option.some (Value.ref p)) (List.cons l1 List.nil)) (Prod.mk (List.cons (Value.ref q) (List.cons (Value.ref p) st)) (Prod.mk (upw w q (.inr (3, [Value.int 0, Value.null, Value.int 0]))) (Prod.mk (k + 1) (n + 3))))))) := Eq.trans (alnR_e rfl (oy_42 qx_cX3_sweep_0 13 rfl) rfl) (Eq.trans (new_e (M := (MX3_sweep g)) (fs := [.int 0, .null, .int 0]) rfl (oy_187 qx_cX3_sweep_0 14 0 13 rfl rfl rfl rfl) rfl) rfl)
theorem eX3_sweep_17R {g : RO} {Q : Ot → Hw → Prop} {w : Hw} {st : List Value} {k n p : Nat} {l0 l1 : Option Value} : WP (MX3_sweep g) Q (Prod.mk 17 (Prod.mk (List.cons l0 (List.cons l1 List.nil)) (Prod.mk (List.cons (Value.ref p) st) (Prod.mk w (Prod.mk k n))))) = (wt (List.cons (Value.ref p) st) ≤ 8 ∧ k + 0 ≤ 1 ∧ n + 0 ≤ 3 ∧ WP (MJx4a65c_init_da8c8 g) (kx (fun v w' => WP (MX3_sweep g) Q (Prod.mk 21 (Prod.mk (List.cons l0 (List.cons l1 List.nil)) (Prod.mk (v.toList ++ (List.cons (Value.ref p) st)) (Prod.mk w' (Prod.mk (k + 0) (n + 0))))))) (fun E w' => Q (.inr E) w')) (Prod.mk 0 (Prod.mk (List.cons (Option.some (Value.ref p)) List.nil) (Prod.mk List.nil (Prod.mk w (Prod.mk 0 0)))))) := Eq.trans (dupR_e rfl (oy_89 qx_cX3_sweep_0 17 rfl)) (csI (M := (MX3_sweep g)) (mc := (fun _ _ => 0)) (ms := (fun _ _ => 0)) (As := []) (rest := (List.cons (Value.ref p) st)) (MJx4a65c_init_da8c8 g) rfl rfl (oy_183 qx_cX3_sweep_0 18 0 15 rfl rfl rfl rfl) (Nat.ne_of_beq_eq_false rfl) rfl rfl (Nat.le_of_ble_eq_true rfl) (Nat.le_of_ble_eq_true rfl) rfl)
theorem eX3_sweep_21 {g : RO} {Q : Ot → Hw → Prop} {st : List Value} {w : Hw} {k n p : Nat} {v : Value} {l0 l1 : Option Value} : WP (MX3_sweep g) Q (Prod.mk 21 (Prod.mk (List.cons l0 (List.cons l1 List.nil)) (Prod.mk (List.cons v (List.cons (Value.ref p) st)) (Prod.mk w (Prod.mk k n))))) = go (w p) 7 fun fs => 3 < fs.length ∧ (narrow (tyX3 3) v = v ∧ fits (tyX3 3) v = true) ∧ WP (MX3_sweep g) Q (Prod.mk 24 (Prod.mk (List.cons l0 (List.cons l1 List.nil)) (Prod.mk st (Prod.mk (upw w p (.inr (7, fs.set 3 v))) (Prod.mk k n))))) := put_e (q := (RX3, TX3, 7)) rfl (oy_181 qx_cX3_sweep_0 21 0 20 rfl rfl rfl rfl) rfl rfl (tyX3_ok 3 (by decide)) (Or.inl rfl)
theorem eX3_sweep_24 {g : RO} {Q : Ot → Hw → Prop} {w : Hw} {a : Int32} {k n : Nat} {l0 : Option Value} : WP (MX3_sweep g) Q (Prod.mk 24 (Prod.mk (List.cons l0 (List.cons (Option.some (Value.int a)) List.nil)) (Prod.mk List.nil (Prod.mk w (Prod.mk k n))))) = (k ≤ 1 ∧ n ≤ 3 ∧ Q (.inl (Option.some (Value.int a))) w) := Eq.trans (iln_e rfl (oy_27 qx_cX3_sweep_0 24 rfl) rfl) (iretI_e rfl (oy_172 qx_cX3_sweep_0 25 rfl) rfl)
theorem vMX3_sweep {l : Launch} (hl : l.stackTraces = false) (G : GT) : vM l G (MX3_sweep (gg G)) := vM_k RX3 cX3_sweep rfl rfl (all_c (vF_RX3_27) (all_c (vF_RX3_20) (all_n))) (all_c (vN_RX3_13) (all_n)) all_n all_n all_n (fun h => absurd rfl h) (all_c (kc_68 hl wk_1520) (all_c (kc_33 hl wk_1122) (all_n))) all_n all_n (fun h => absurd rfl h) rfl all_n
theorem okX3_sweep {l : Launch} (hl : l.stackTraces = false) {G : GT} : ∀ (args : List Value) (w : Hw) (S : Ot → Hw → Prop), spOf (MX3_sweep (gg G)) args w S → CX l G yX3_sweep (.code yX3_sweep cX3_sweep 2 (some .int)) 4 1 3 args w S := CX_sp (M := MX3_sweep (gg G)) (y := yX3_sweep) hl pn15 rfl (vMX3_sweep hl G) (fun h => by cases h) rfl
theorem qx_cX3_isAhead_0 : ((cX3_isAhead.data.toList.drop 0).take 38).map UInt8.toNat = [3, 61, 3, 62, 29, 27, 162, 0, 37, 28, 42, 180, 0, 20, 29, 182, 0, 42, 192, 0, 125, 42, 180, 0, 20, 27, 182, 0, 42, 192, 0, 125, 184, 0, 126, 128, 61, 132] := by decide +kernel
theorem qx_cX3_isAhead_1 : ((cX3_isAhead.data.toList.drop 32).take 38).map UInt8.toNat = [184, 0, 126, 128, 61, 132, 3, 1, 167, 255, 220, 28, 172] := by decide +kernel
noncomputable def MX3_isAhead (g : RO) : MT := ((RX3, cX3_isAhead, 4, 4, 0, 0, false, some .boolean), [(20, 7, 3)], [], [], [], [], 0, [(42, 2, 2, 3, 3, (fun _ _ => 0), (fun _ _ => 0), yJx4a65c_get_915e3, spOf (MJx4a65c_get_915e3 g)), (126, 0, 2, 0, 1, (fun _ _ => 0), (fun _ _ => 0), yX3_same, spOf (MX3_same g))], [], [(125, 0)], 0, [], [], g)
theorem eX3_isAhead_0 {g : RO} {Q : Ot → Hw → Prop} {w : Hw} {st : List Value} {k n : Nat} {l0 l1 l2 l3 : Option Value} : WP (MX3_isAhead g) Q (Prod.mk 0 (Prod.mk (List.cons l0 (List.cons l1 (List.cons l2 (List.cons l3 List.nil)))) (Prod.mk st (Prod.mk w (Prod.mk k n))))) = WP (MX3_isAhead g) Q (Prod.mk 4 (Prod.mk (List.cons l0 (List.cons (nl l1) (List.cons (nl (Option.some (Value.int 0))) (List.cons (Option.some (Value.int (0 : Int32))) List.nil)))) (Prod.mk st (Prod.mk w (Prod.mk k n))))) := Eq.trans (ic_0 rfl (oy_3 qx_cX3_isAhead_0 0 rfl)) (Eq.trans (isn_e rfl (oy_61 qx_cX3_isAhead_0 1 rfl) rfl rfl) (Eq.trans (ic_0 rfl (oy_3 qx_cX3_isAhead_0 2 rfl)) (isn_e rfl (oy_62 qx_cX3_isAhead_0 3 rfl) rfl rfl)))
theorem eX3_isAhead_4 {g : RO} {Q : Ot → Hw → Prop} {st : List Value} {w : Hw} {k n : Nat} {a : Int32} {l0 l1 l2 : Option Value} : WP (MX3_isAhead g) Q (Prod.mk 4 (Prod.mk (List.cons l0 (List.cons l1 (List.cons l2 (List.cons (Option.some (Value.int a)) List.nil)))) (Prod.mk st (Prod.mk w (Prod.mk k n))))) = WP (MX3_isAhead g) Q (Prod.mk 5 (Prod.mk (List.cons l0 (List.cons l1 (List.cons l2 (List.cons (Option.some (Value.int a)) List.nil)))) (Prod.mk (List.cons (Value.int a) st) (Prod.mk w (Prod.mk k n))))) := iln_e rfl (oy_29 qx_cX3_isAhead_0 4 rfl) rfl
theorem eX3_isAhead_5 {g : RO} {Q : Ot → Hw → Prop} {w : Hw} {a b : Int32} {st : List Value} {k n : Nat} {l0 l2 l3 : Option Value} : WP (MX3_isAhead g) Q (Prod.mk 5 (Prod.mk (List.cons l0 (List.cons (Option.some (Value.int b)) (List.cons l2 (List.cons l3 List.nil)))) (Prod.mk (List.cons (Value.int a) st) (Prod.mk w (Prod.mk k n))))) = if b ≤ a then WP (MX3_isAhead g) Q (Prod.mk 43 (Prod.mk (List.cons l0 (List.cons (Option.some (Value.int b)) (List.cons l2 (List.cons l3 List.nil)))) (Prod.mk st (Prod.mk w (Prod.mk k n))))) else WP (MX3_isAhead g) Q (Prod.mk 9 (Prod.mk (List.cons l0 (List.cons (Option.some (Value.int b)) (List.cons l2 (List.cons l3 List.nil)))) (Prod.mk st (Prod.mk w (Prod.mk k n))))) := Eq.trans (iln_e rfl (oy_27 qx_cX3_isAhead_0 5 rfl) rfl) (icm_e (b ≤ a) rfl (oy_162 qx_cX3_isAhead_0 6 0 37 rfl rfl rfl rfl) rfl (by decide))
theorem eX3_isAhead_9 {g : RO} {Q : Ot → Hw → Prop} {w : Hw} {a : Int32} {st : List Value} {k n p : Nat} {l1 l3 : Option Value} : WP (MX3_isAhead g) Q (Prod.mk 9 (Prod.mk (List.cons (Option.some (Value.ref p)) (List.cons l1 (List.cons (Option.some (Value.int a)) (List.cons l3 List.nil)))) (Prod.mk st (Prod.mk w (Prod.mk k n))))) = go (rd g w p) 7 fun fs => ∃ v, fs[3]? = some v ∧ WP (MX3_isAhead g) Q (Prod.mk 14 (Prod.mk (List.cons (Option.some (Value.ref p)) (List.cons l1 (List.cons (Option.some (Value.int a)) (List.cons l3 List.nil)))) (Prod.mk (List.cons v (List.cons (Value.int a) st)) (Prod.mk w (Prod.mk k n))))) := Eq.trans (iln_e rfl (oy_28 qx_cX3_isAhead_0 9 rfl) rfl) (Eq.trans (alnR_e rfl (oy_42 qx_cX3_isAhead_0 10 rfl) rfl) (get_e rfl (oy_180 qx_cX3_isAhead_0 11 0 20 rfl rfl rfl rfl) rfl))
theorem eX3_isAhead_14 {g : RO} {Q : Ot → Hw → Prop} {st : List Value} {w : Hw} {k n : Nat} {a : Int32} {l0 l1 l2 : Option Value} : WP (MX3_isAhead g) Q (Prod.mk 14 (Prod.mk (List.cons l0 (List.cons l1 (List.cons l2 (List.cons (Option.some (Value.int a)) List.nil)))) (Prod.mk st (Prod.mk w (Prod.mk k n))))) = WP (MX3_isAhead g) Q (Prod.mk 15 (Prod.mk (List.cons l0 (List.cons l1 (List.cons l2 (List.cons (Option.some (Value.int a)) List.nil)))) (Prod.mk (List.cons (Value.int a) st) (Prod.mk w (Prod.mk k n))))) := iln_e rfl (oy_29 qx_cX3_isAhead_0 14 rfl) rfl
theorem eX3_isAhead_15 {g : RO} {Q : Ot → Hw → Prop} {st : List Value} {w : Hw} {k n p : Nat} {l0 l1 l2 l3 : Option Value} {z0 : Int32} : WP (MX3_isAhead g) Q (Prod.mk 15 (Prod.mk (List.cons l0 (List.cons l1 (List.cons l2 (List.cons l3 List.nil)))) (Prod.mk (List.cons (Value.int z0) (List.cons (Value.ref p) st)) (Prod.mk w (Prod.mk k n))))) = (go (rd g w p) 3 (fun _ => True) ∧ wt st ≤ 8 ∧ k + 0 ≤ 0 ∧ n + 0 ≤ 0 ∧ WP (MJx4a65c_get_915e3 g) (kx (fun v w' => WP (MX3_isAhead g) Q (Prod.mk 18 (Prod.mk (List.cons l0 (List.cons l1 (List.cons l2 (List.cons l3 List.nil)))) (Prod.mk (v.toList ++ st) (Prod.mk w' (Prod.mk (k + 0) (n + 0))))))) (fun E w' => Q (.inr E) w')) (Prod.mk 0 (Prod.mk (List.cons (Option.some (Value.ref p)) (List.cons (Option.some (Value.int z0)) List.nil)) (Prod.mk List.nil (Prod.mk w (Prod.mk 0 0)))))) := csV0 (M := (MX3_isAhead g)) (mc := (fun _ _ => 0)) (ms := (fun _ _ => 0)) (As := [.int z0]) (rest := st) (MJx4a65c_get_915e3 g) rfl rfl rfl (oy_182 qx_cX3_isAhead_0 15 0 42 rfl rfl rfl rfl) rfl rfl rfl rfl rfl rfl
theorem eX3_isAhead_18R {g : RO} {Q : Ot → Hw → Prop} {st : List Value} {w : Hw} {k n p : Nat} {l0 l1 l2 l3 : Option Value} : WP (MX3_isAhead g) Q (Prod.mk 18 (Prod.mk (List.cons l0 (List.cons l1 (List.cons l2 (List.cons l3 List.nil)))) (Prod.mk (List.cons (Value.ref p) st) (Prod.mk w (Prod.mk k n))))) = ((∃ x, w p = Option.some (.inl (0, x))) ∧ WP (MX3_isAhead g) Q (Prod.mk 21 (Prod.mk (List.cons l0 (List.cons l1 (List.cons l2 (List.cons l3 List.nil)))) (Prod.mk (List.cons (Value.ref p) st) (Prod.mk w (Prod.mk k n)))))) := castR_e rfl (oy_192 qx_cX3_isAhead_0 18 0 125 rfl rfl rfl rfl) rfl
theorem eX3_isAhead_21 {g : RO} {Q : Ot → Hw → Prop} {w : Hw} {st : List Value} {k n p : Nat} {l1 l2 l3 : Option Value} : WP (MX3_isAhead g) Q (Prod.mk 21 (Prod.mk (List.cons (Option.some (Value.ref p)) (List.cons l1 (List.cons l2 (List.cons l3 List.nil)))) (Prod.mk st (Prod.mk w (Prod.mk k n))))) = go (rd g w p) 7 fun fs => ∃ v, fs[3]? = some v ∧ WP (MX3_isAhead g) Q (Prod.mk 25 (Prod.mk (List.cons (Option.some (Value.ref p)) (List.cons l1 (List.cons l2 (List.cons l3 List.nil)))) (Prod.mk (List.cons v st) (Prod.mk w (Prod.mk k n))))) := Eq.trans (alnR_e rfl (oy_42 qx_cX3_isAhead_0 21 rfl) rfl) (get_e rfl (oy_180 qx_cX3_isAhead_0 22 0 20 rfl rfl rfl rfl) rfl)
theorem eX3_isAhead_25 {g : RO} {Q : Ot → Hw → Prop} {st : List Value} {w : Hw} {k n : Nat} {a : Int32} {l0 l2 l3 : Option Value} : WP (MX3_isAhead g) Q (Prod.mk 25 (Prod.mk (List.cons l0 (List.cons (Option.some (Value.int a)) (List.cons l2 (List.cons l3 List.nil)))) (Prod.mk st (Prod.mk w (Prod.mk k n))))) = WP (MX3_isAhead g) Q (Prod.mk 26 (Prod.mk (List.cons l0 (List.cons (Option.some (Value.int a)) (List.cons l2 (List.cons l3 List.nil)))) (Prod.mk (List.cons (Value.int a) st) (Prod.mk w (Prod.mk k n))))) := iln_e rfl (oy_27 qx_cX3_isAhead_0 25 rfl) rfl
theorem eX3_isAhead_26 {g : RO} {Q : Ot → Hw → Prop} {st : List Value} {w : Hw} {k n p : Nat} {l0 l1 l2 l3 : Option Value} {z0 : Int32} : WP (MX3_isAhead g) Q (Prod.mk 26 (Prod.mk (List.cons l0 (List.cons l1 (List.cons l2 (List.cons l3 List.nil)))) (Prod.mk (List.cons (Value.int z0) (List.cons (Value.ref p) st)) (Prod.mk w (Prod.mk k n))))) = (go (rd g w p) 3 (fun _ => True) ∧ wt st ≤ 8 ∧ k + 0 ≤ 0 ∧ n + 0 ≤ 0 ∧ WP (MJx4a65c_get_915e3 g) (kx (fun v w' => WP (MX3_isAhead g) Q (Prod.mk 29 (Prod.mk (List.cons l0 (List.cons l1 (List.cons l2 (List.cons l3 List.nil)))) (Prod.mk (v.toList ++ st) (Prod.mk w' (Prod.mk (k + 0) (n + 0))))))) (fun E w' => Q (.inr E) w')) (Prod.mk 0 (Prod.mk (List.cons (Option.some (Value.ref p)) (List.cons (Option.some (Value.int z0)) List.nil)) (Prod.mk List.nil (Prod.mk w (Prod.mk 0 0)))))) := csV0 (M := (MX3_isAhead g)) (mc := (fun _ _ => 0)) (ms := (fun _ _ => 0)) (As := [.int z0]) (rest := st) (MJx4a65c_get_915e3 g) rfl rfl rfl (oy_182 qx_cX3_isAhead_0 26 0 42 rfl rfl rfl rfl) rfl rfl rfl rfl rfl rfl
theorem eX3_isAhead_29R {g : RO} {Q : Ot → Hw → Prop} {st : List Value} {w : Hw} {k n p : Nat} {l0 l1 l2 l3 : Option Value} : WP (MX3_isAhead g) Q (Prod.mk 29 (Prod.mk (List.cons l0 (List.cons l1 (List.cons l2 (List.cons l3 List.nil)))) (Prod.mk (List.cons (Value.ref p) st) (Prod.mk w (Prod.mk k n))))) = ((∃ x, w p = Option.some (.inl (0, x))) ∧ WP (MX3_isAhead g) Q (Prod.mk 32 (Prod.mk (List.cons l0 (List.cons l1 (List.cons l2 (List.cons l3 List.nil)))) (Prod.mk (List.cons (Value.ref p) st) (Prod.mk w (Prod.mk k n)))))) := castR_e rfl (oy_192 qx_cX3_isAhead_0 29 0 125 rfl rfl rfl rfl) rfl
theorem eX3_isAhead_32RR {g : RO} {Q : Ot → Hw → Prop} {st : List Value} {w : Hw} {k n : Nat} {l0 l1 l2 l3 : Option Value} {z0 : Nat} {z1 : Nat} : WP (MX3_isAhead g) Q (Prod.mk 32 (Prod.mk (List.cons l0 (List.cons l1 (List.cons l2 (List.cons l3 List.nil)))) (Prod.mk (List.cons (Value.ref z1) (List.cons (Value.ref z0) st)) (Prod.mk w (Prod.mk k n))))) = (wt st ≤ 8 ∧ k + 0 ≤ 0 ∧ n + 0 ≤ 0 ∧ WP (MX3_same g) (kx (fun v w' => WP (MX3_isAhead g) Q (Prod.mk 35 (Prod.mk (List.cons l0 (List.cons l1 (List.cons l2 (List.cons l3 List.nil)))) (Prod.mk (v.toList ++ st) (Prod.mk w' (Prod.mk (k + 0) (n + 0))))))) (fun E w' => Q (.inr E) w')) (Prod.mk 0 (Prod.mk (List.cons (Option.some (Value.ref z0)) (List.cons (Option.some (Value.ref z1)) (List.cons none (List.cons none List.nil)))) (Prod.mk List.nil (Prod.mk w (Prod.mk 0 0)))))) := csS0 (M := (MX3_isAhead g)) (mc := (fun _ _ => 0)) (ms := (fun _ _ => 0)) (As := [.ref z0, .ref z1]) (rest := st) (MX3_same g) rfl rfl rfl (oy_184 qx_cX3_isAhead_1 0 0 126 rfl rfl rfl rfl) rfl rfl rfl rfl rfl rfl rfl
theorem eX3_isAhead_35 {g : RO} {Q : Ot → Hw → Prop} {w : Hw} {a ax1 b : Int32} {st : List Value} {k n : Nat} {l0 l1 l2 : Option Value} : WP (MX3_isAhead g) Q (Prod.mk 35 (Prod.mk (List.cons l0 (List.cons l1 (List.cons l2 (List.cons (Option.some (Value.int ax1)) List.nil)))) (Prod.mk (List.cons (Value.int b) (List.cons (Value.int a) st)) (Prod.mk w (Prod.mk k n))))) = WP (MX3_isAhead g) Q (Prod.mk 4 (Prod.mk (List.cons l0 (List.cons (nl l1) (List.cons (nl (Option.some (Value.int (a ||| b)))) (List.cons (Option.some (Value.int (ax1 + 1))) List.nil)))) (Prod.mk st (Prod.mk w (Prod.mk k n))))) := Eq.trans (ior_e rfl (oy_128 qx_cX3_isAhead_1 3 rfl)) (Eq.trans (isn_e rfl (oy_61 qx_cX3_isAhead_1 4 rfl) rfl rfl) (Eq.trans (Eq.trans (iinc_e (M := (MX3_isAhead g)) (L := [l0, (nl l1), (Option.some (Value.int (a ||| b))), some (.int ax1)]) (d := 1) rfl (oy_132 qx_cX3_isAhead_1 5 3 1 rfl rfl rfl rfl) (by decide) rfl) rfl) (goto_e rfl (oy_167 qx_cX3_isAhead_1 8 255 220 rfl rfl rfl rfl) (by decide))))
set_option maxRecDepth 20000 in
theorem eX3_isAhead_43 {g : RO} {Q : Ot → Hw → Prop} {w : Hw} {a : Int32} {k n : Nat} {l0 l1 l3 : Option Value} : WP (MX3_isAhead g) Q (Prod.mk 43 (Prod.mk (List.cons l0 (List.cons l1 (List.cons (Option.some (Value.int a)) (List.cons l3 List.nil)))) (Prod.mk List.nil (Prod.mk w (Prod.mk k n))))) = (narrow (.boolean) (Value.int a) = Value.int a ∧ k ≤ 0 ∧ n ≤ 0 ∧ Q (.inl (Option.some (Value.int a))) w) := Eq.trans (iln_e rfl (oy_28 qx_cX3_isAhead_1 11 rfl) rfl) (iret_e rfl (oy_172 qx_cX3_isAhead_1 12 rfl) rfl)
theorem vMX3_isAhead {l : Launch} (hl : l.stackTraces = false) (G : GT) : vM l G (MX3_isAhead (gg G)) := vM_k RX3 cX3_isAhead rfl rfl (all_c (vF_RX3_20) (all_n)) all_n all_n all_n all_n (fun h => absurd rfl h) (all_c (kc_37 hl wk_1376) (all_c (kc_55 hl wk_1385) (all_n))) all_n (all_c (⟨.long, rfl, (fun C h => by cases h), wk_1380⟩) (all_n)) (fun h => absurd rfl h) rfl all_n
theorem okX3_isAhead {l : Launch} (hl : l.stackTraces = false) {G : GT} : ∀ (args : List Value) (w : Hw) (S : Ot → Hw → Prop), spOf (MX3_isAhead (gg G)) args w S → CX l G yX3_isAhead (.code yX3_isAhead cX3_isAhead 4 (some .boolean)) 4 0 0 args w S := CX_sp (M := MX3_isAhead (gg G)) (y := yX3_isAhead) hl pn15 rfl (vMX3_isAhead hl G) (fun h => by cases h) rfl
theorem qx_cX3_pileNow_0 : ((cX3_pileNow.data.toList.drop 0).take 38).map UInt8.toNat = [3, 62, 3, 54, 4, 21, 4, 42, 180, 0, 20, 182, 0, 174, 162, 0, 98, 42, 180, 0, 20, 21, 4, 182, 0, 42, 192, 0, 125, 58, 5, 16, 6, 188, 4, 89, 3, 4] := by decide +kernel
theorem qx_cX3_pileNow_1 : ((cX3_pileNow.data.toList.drop 32).take 38).map UInt8.toNat = [6, 188, 4, 89, 3, 4, 84, 89, 4, 25, 5, 42, 180, 0, 9, 27, 47, 3, 184, 0, 152, 84, 89, 5, 25, 5, 42, 180, 0, 9, 27, 47, 4, 184, 0, 152, 84, 89] := by decide +kernel
theorem qx_cX3_pileNow_2 : ((cX3_pileNow.data.toList.drop 64).take 38).map UInt8.toNat = [4, 184, 0, 152, 84, 89, 6, 25, 5, 184, 0, 130, 84, 89, 7, 25, 5, 184, 0, 137, 84, 89, 8, 42, 21, 4, 182, 0, 204, 84, 58, 6, 29, 25, 6, 28, 51, 184] := by decide +kernel
theorem qx_cX3_pileNow_3 : ((cX3_pileNow.data.toList.drop 96).take 38).map UInt8.toNat = [29, 25, 6, 28, 51, 184, 0, 92, 96, 62, 132, 4, 1, 167, 255, 152, 29, 172] := by decide +kernel
noncomputable def MX3_pileNow (g : RO) : MT := ((RX3, cX3_pileNow, 7, 5, 12, 72, false, some .int), [(20, 7, 3), (9, 7, 1)], [], [], [], [], 0, [(174, 2, 1, 3, 1, (fun _ _ => 0), (fun _ _ => 0), yJx4a65c_size_8abf5, spOf (MJx4a65c_size_8abf5 g)), (42, 2, 2, 3, 3, (fun _ _ => 0), (fun _ _ => 0), yJx4a65c_get_915e3, spOf (MJx4a65c_get_915e3 g)), (152, 0, 3, 0, 2, (fun _ _ => 0), (fun _ _ => 0), yX3_valid, spOf (MX3_valid g)), (130, 0, 1, 0, 1, (fun _ _ => 0), (fun _ _ => 0), yX3_fixed, spOf (MX3_fixed g)), (137, 0, 1, 0, 1, (fun _ _ => 0), (fun _ _ => 0), yX3_small, spOf (MX3_small g)), (204, 2, 2, 7, 4, (fun _ _ => 0), (fun _ _ => 0), yX3_isAhead, spOf (MX3_isAhead g)), (92, 0, 1, 0, 1, (fun _ _ => 0), (fun _ _ => 0), yX3_one, spOf (MX3_one g))], [], [(125, 0)], 0, [], [], g)
theorem eX3_pileNow_0 {g : RO} {Q : Ot → Hw → Prop} {w : Hw} {st : List Value} {k n : Nat} {l0 l1 l2 l3 l4 l5 l6 : Option Value} : WP (MX3_pileNow g) Q (Prod.mk 0 (Prod.mk (List.cons l0 (List.cons l1 (List.cons l2 (List.cons l3 (List.cons l4 (List.cons l5 (List.cons l6 List.nil))))))) (Prod.mk st (Prod.mk w (Prod.mk k n))))) = WP (MX3_pileNow g) Q (Prod.mk 5 (Prod.mk (List.cons l0 (List.cons l1 (List.cons (nl l2) (List.cons (nl (Option.some (Value.int 0))) (List.cons (Option.some (Value.int (0 : Int32))) (List.cons l5 (List.cons l6 List.nil))))))) (Prod.mk st (Prod.mk w (Prod.mk k n))))) := Eq.trans (ic_0 rfl (oy_3 qx_cX3_pileNow_0 0 rfl)) (Eq.trans (isn_e rfl (oy_62 qx_cX3_pileNow_0 1 rfl) rfl rfl) (Eq.trans (ic_0 rfl (oy_3 qx_cX3_pileNow_0 2 rfl)) (is_e rfl (oy_54 qx_cX3_pileNow_0 3 4 rfl rfl) rfl rfl)))
theorem eX3_pileNow_5 {g : RO} {Q : Ot → Hw → Prop} {st : List Value} {w : Hw} {k n : Nat} {a : Int32} {l0 l1 l2 l3 l5 l6 : Option Value} : WP (MX3_pileNow g) Q (Prod.mk 5 (Prod.mk (List.cons l0 (List.cons l1 (List.cons l2 (List.cons l3 (List.cons (Option.some (Value.int a)) (List.cons l5 (List.cons l6 List.nil))))))) (Prod.mk st (Prod.mk w (Prod.mk k n))))) = WP (MX3_pileNow g) Q (Prod.mk 7 (Prod.mk (List.cons l0 (List.cons l1 (List.cons l2 (List.cons l3 (List.cons (Option.some (Value.int a)) (List.cons l5 (List.cons l6 List.nil))))))) (Prod.mk (List.cons (Value.int a) st) (Prod.mk w (Prod.mk k n))))) := il_e rfl (oy_21 qx_cX3_pileNow_0 5 4 rfl rfl) rfl
theorem eX3_pileNow_7 {g : RO} {Q : Ot → Hw → Prop} {w : Hw} {st : List Value} {k n p : Nat} {l1 l2 l3 l4 l5 l6 : Option Value} : WP (MX3_pileNow g) Q (Prod.mk 7 (Prod.mk (List.cons (Option.some (Value.ref p)) (List.cons l1 (List.cons l2 (List.cons l3 (List.cons l4 (List.cons l5 (List.cons l6 List.nil))))))) (Prod.mk st (Prod.mk w (Prod.mk k n))))) = go (rd g w p) 7 fun fs => ∃ v, fs[3]? = some v ∧ WP (MX3_pileNow g) Q (Prod.mk 11 (Prod.mk (List.cons (Option.some (Value.ref p)) (List.cons l1 (List.cons l2 (List.cons l3 (List.cons l4 (List.cons l5 (List.cons l6 List.nil))))))) (Prod.mk (List.cons v st) (Prod.mk w (Prod.mk k n))))) := Eq.trans (alnR_e rfl (oy_42 qx_cX3_pileNow_0 7 rfl) rfl) (get_e rfl (oy_180 qx_cX3_pileNow_0 8 0 20 rfl rfl rfl rfl) rfl)
theorem eX3_pileNow_11 {g : RO} {Q : Ot → Hw → Prop} {st : List Value} {w : Hw} {k n p : Nat} {l0 l1 l2 l3 l4 l5 l6 : Option Value} : WP (MX3_pileNow g) Q (Prod.mk 11 (Prod.mk (List.cons l0 (List.cons l1 (List.cons l2 (List.cons l3 (List.cons l4 (List.cons l5 (List.cons l6 List.nil))))))) (Prod.mk (List.cons (Value.ref p) st) (Prod.mk w (Prod.mk k n))))) = (go (rd g w p) 3 (fun _ => True) ∧ wt st ≤ 8 ∧ k + 0 ≤ 12 ∧ n + 0 ≤ 72 ∧ WP (MJx4a65c_size_8abf5 g) (kx (fun v w' => WP (MX3_pileNow g) Q (Prod.mk 14 (Prod.mk (List.cons l0 (List.cons l1 (List.cons l2 (List.cons l3 (List.cons l4 (List.cons l5 (List.cons l6 List.nil))))))) (Prod.mk (v.toList ++ st) (Prod.mk w' (Prod.mk (k + 0) (n + 0))))))) (fun E w' => Q (.inr E) w')) (Prod.mk 0 (Prod.mk (List.cons (Option.some (Value.ref p)) List.nil) (Prod.mk List.nil (Prod.mk w (Prod.mk 0 0)))))) := csV0 (M := (MX3_pileNow g)) (mc := (fun _ _ => 0)) (ms := (fun _ _ => 0)) (As := []) (rest := st) (MJx4a65c_size_8abf5 g) rfl rfl rfl (oy_182 qx_cX3_pileNow_0 11 0 174 rfl rfl rfl rfl) rfl rfl rfl rfl rfl rfl
theorem eX3_pileNow_14 {g : RO} {Q : Ot → Hw → Prop} {st : List Value} {w : Hw} {k n : Nat} {a b : Int32} {l0 l1 l2 l3 l4 l5 l6 : Option Value} : WP (MX3_pileNow g) Q (Prod.mk 14 (Prod.mk (List.cons l0 (List.cons l1 (List.cons l2 (List.cons l3 (List.cons l4 (List.cons l5 (List.cons l6 List.nil))))))) (Prod.mk (List.cons (Value.int b) (List.cons (Value.int a) st)) (Prod.mk w (Prod.mk k n))))) = if b ≤ a then WP (MX3_pileNow g) Q (Prod.mk 112 (Prod.mk (List.cons l0 (List.cons l1 (List.cons l2 (List.cons l3 (List.cons l4 (List.cons l5 (List.cons l6 List.nil))))))) (Prod.mk st (Prod.mk w (Prod.mk k n))))) else WP (MX3_pileNow g) Q (Prod.mk 17 (Prod.mk (List.cons l0 (List.cons l1 (List.cons l2 (List.cons l3 (List.cons l4 (List.cons l5 (List.cons l6 List.nil))))))) (Prod.mk st (Prod.mk w (Prod.mk k n))))) := icm_e (b ≤ a) rfl (oy_162 qx_cX3_pileNow_0 14 0 98 rfl rfl rfl rfl) rfl (by decide)
theorem eX3_pileNow_17 {g : RO} {Q : Ot → Hw → Prop} {w : Hw} {st : List Value} {k n p : Nat} {l1 l2 l3 l4 l5 l6 : Option Value} : WP (MX3_pileNow g) Q (Prod.mk 17 (Prod.mk (List.cons (Option.some (Value.ref p)) (List.cons l1 (List.cons l2 (List.cons l3 (List.cons l4 (List.cons l5 (List.cons l6 List.nil))))))) (Prod.mk st (Prod.mk w (Prod.mk k n))))) = go (rd g w p) 7 fun fs => ∃ v, fs[3]? = some v ∧ WP (MX3_pileNow g) Q (Prod.mk 21 (Prod.mk (List.cons (Option.some (Value.ref p)) (List.cons l1 (List.cons l2 (List.cons l3 (List.cons l4 (List.cons l5 (List.cons l6 List.nil))))))) (Prod.mk (List.cons v st) (Prod.mk w (Prod.mk k n))))) := Eq.trans (alnR_e rfl (oy_42 qx_cX3_pileNow_0 17 rfl) rfl) (get_e rfl (oy_180 qx_cX3_pileNow_0 18 0 20 rfl rfl rfl rfl) rfl)
theorem eX3_pileNow_21 {g : RO} {Q : Ot → Hw → Prop} {st : List Value} {w : Hw} {k n : Nat} {a : Int32} {l0 l1 l2 l3 l5 l6 : Option Value} : WP (MX3_pileNow g) Q (Prod.mk 21 (Prod.mk (List.cons l0 (List.cons l1 (List.cons l2 (List.cons l3 (List.cons (Option.some (Value.int a)) (List.cons l5 (List.cons l6 List.nil))))))) (Prod.mk st (Prod.mk w (Prod.mk k n))))) = WP (MX3_pileNow g) Q (Prod.mk 23 (Prod.mk (List.cons l0 (List.cons l1 (List.cons l2 (List.cons l3 (List.cons (Option.some (Value.int a)) (List.cons l5 (List.cons l6 List.nil))))))) (Prod.mk (List.cons (Value.int a) st) (Prod.mk w (Prod.mk k n))))) := il_e rfl (oy_21 qx_cX3_pileNow_0 21 4 rfl rfl) rfl
theorem eX3_pileNow_23 {g : RO} {Q : Ot → Hw → Prop} {st : List Value} {w : Hw} {k n p : Nat} {l0 l1 l2 l3 l4 l5 l6 : Option Value} {z0 : Int32} : WP (MX3_pileNow g) Q (Prod.mk 23 (Prod.mk (List.cons l0 (List.cons l1 (List.cons l2 (List.cons l3 (List.cons l4 (List.cons l5 (List.cons l6 List.nil))))))) (Prod.mk (List.cons (Value.int z0) (List.cons (Value.ref p) st)) (Prod.mk w (Prod.mk k n))))) = (go (rd g w p) 3 (fun _ => True) ∧ wt st ≤ 8 ∧ k + 0 ≤ 12 ∧ n + 0 ≤ 72 ∧ WP (MJx4a65c_get_915e3 g) (kx (fun v w' => WP (MX3_pileNow g) Q (Prod.mk 26 (Prod.mk (List.cons l0 (List.cons l1 (List.cons l2 (List.cons l3 (List.cons l4 (List.cons l5 (List.cons l6 List.nil))))))) (Prod.mk (v.toList ++ st) (Prod.mk w' (Prod.mk (k + 0) (n + 0))))))) (fun E w' => Q (.inr E) w')) (Prod.mk 0 (Prod.mk (List.cons (Option.some (Value.ref p)) (List.cons (Option.some (Value.int z0)) List.nil)) (Prod.mk List.nil (Prod.mk w (Prod.mk 0 0)))))) := csV0 (M := (MX3_pileNow g)) (mc := (fun _ _ => 0)) (ms := (fun _ _ => 0)) (As := [.int z0]) (rest := st) (MJx4a65c_get_915e3 g) rfl rfl rfl (oy_182 qx_cX3_pileNow_0 23 0 42 rfl rfl rfl rfl) rfl rfl rfl rfl rfl rfl
theorem eX3_pileNow_26R {g : RO} {Q : Ot → Hw → Prop} {st : List Value} {w : Hw} {k n p : Nat} {l0 l1 l2 l3 l4 l5 l6 : Option Value} : WP (MX3_pileNow g) Q (Prod.mk 26 (Prod.mk (List.cons l0 (List.cons l1 (List.cons l2 (List.cons l3 (List.cons l4 (List.cons l5 (List.cons l6 List.nil))))))) (Prod.mk (List.cons (Value.ref p) st) (Prod.mk w (Prod.mk k n))))) = ((∃ x, w p = Option.some (.inl (0, x))) ∧ WP (MX3_pileNow g) Q (Prod.mk 29 (Prod.mk (List.cons l0 (List.cons l1 (List.cons l2 (List.cons l3 (List.cons l4 (List.cons l5 (List.cons l6 List.nil))))))) (Prod.mk (List.cons (Value.ref p) st) (Prod.mk w (Prod.mk k n)))))) := castR_e rfl (oy_192 qx_cX3_pileNow_0 26 0 125 rfl rfl rfl rfl) rfl
theorem eX3_pileNow_29 {g : RO} {Q : Ot → Hw → Prop} {w : Hw} {st : List Value} {k n p : Nat} {l0 l1 l2 l3 l4 l5 l6 : Option Value} : WP (MX3_pileNow g) Q (Prod.mk 29 (Prod.mk (List.cons l0 (List.cons l1 (List.cons l2 (List.cons l3 (List.cons l4 (List.cons l5 (List.cons l6 List.nil))))))) (Prod.mk (List.cons (Value.ref p) st) (Prod.mk w (Prod.mk k n))))) = (¬ (6 : Int32) < 0 ∧ (6 : Int32).toNatClampNeg ≤ 40000 ∧ k + 1 ≤ 12 ∧ n + (6 : Int32).toNatClampNeg ≤ 72 ∧ ∀ q : Nat, rd g w q = none → WP (MX3_pileNow g) Q (Prod.mk 35 (Prod.mk (List.cons l0 (List.cons l1 (List.cons l2 (List.cons l3 (List.cons (nl l4) (List.cons (Option.some (Value.ref p)) (List.cons l6 List.nil))))))) (Prod.mk (List.cons (Value.ref q) st) (Prod.mk (upw w q (.inl (3, (6 : Int32).toNatClampNeg, .inl fun _ => 0))) (Prod.mk (k + 1) (n + (6 : Int32).toNatClampNeg))))))) := Eq.trans (asR_e rfl (oy_58 qx_cX3_pileNow_0 29 5 rfl rfl) rfl rfl) (Eq.trans (bipush_e rfl (oy_16 qx_cX3_pileNow_0 31 6 rfl rfl rfl) (by decide)) (Eq.trans (WP_at (M := (MX3_pileNow g)) rfl (oy_188_4 qx_cX3_pileNow_1 1 rfl rfl) (Or.inr rfl)) rfl))
theorem eX3_pileNow_35R {g : RO} {Q : Ot → Hw → Prop} {w : Hw} {st : List Value} {k n p : Nat} {l0 l1 l2 l3 l4 l5 l6 : Option Value} : WP (MX3_pileNow g) Q (Prod.mk 35 (Prod.mk (List.cons l0 (List.cons l1 (List.cons l2 (List.cons l3 (List.cons l4 (List.cons l5 (List.cons l6 List.nil))))))) (Prod.mk (List.cons (Value.ref p) st) (Prod.mk w (Prod.mk k n))))) = gb (w p) fun t N f => vp_in (0 : Int32) N ∧ WP (MX3_pileNow g) Q (Prod.mk 39 (Prod.mk (List.cons l0 (List.cons l1 (List.cons l2 (List.cons l3 (List.cons l4 (List.cons l5 (List.cons l6 List.nil))))))) (Prod.mk (List.cons (Value.ref p) st) (Prod.mk (upw w p (.inl (t, N, .inl (upd f (0 : Int32).toNatClampNeg (vp_nar (bty t) (1 : Int32)))))) (Prod.mk k n))))) := Eq.trans (dupR_e rfl (oy_89 qx_cX3_pileNow_1 3 rfl)) (Eq.trans (ic_0 rfl (oy_3 qx_cX3_pileNow_1 4 rfl)) (Eq.trans (ic_1 rfl (oy_4 qx_cX3_pileNow_1 5 rfl)) (Eq.trans (WP_at (M := (MX3_pileNow g)) rfl (oy_84 qx_cX3_pileNow_1 6 rfl) (Or.inr rfl)) rfl)))
theorem eX3_pileNow_39R {g : RO} {Q : Ot → Hw → Prop} {w : Hw} {st : List Value} {k n p px1 px2 : Nat} {l1 l2 l3 l4 l6 : Option Value} : WP (MX3_pileNow g) Q (Prod.mk 39 (Prod.mk (List.cons (Option.some (Value.ref px2)) (List.cons l1 (List.cons l2 (List.cons l3 (List.cons l4 (List.cons (Option.some (Value.ref px1)) (List.cons l6 List.nil))))))) (Prod.mk (List.cons (Value.ref p) st) (Prod.mk w (Prod.mk k n))))) = go (rd g w px2) 7 fun fs => ∃ v, fs[1]? = some v ∧ WP (MX3_pileNow g) Q (Prod.mk 47 (Prod.mk (List.cons (Option.some (Value.ref px2)) (List.cons l1 (List.cons l2 (List.cons l3 (List.cons l4 (List.cons (Option.some (Value.ref px1)) (List.cons l6 List.nil))))))) (Prod.mk (List.cons v (List.cons (Value.ref px1) (List.cons (Value.int 1) (List.cons (Value.ref p) (List.cons (Value.ref p) st))))) (Prod.mk w (Prod.mk k n))))) := Eq.trans (dupR_e rfl (oy_89 qx_cX3_pileNow_1 7 rfl)) (Eq.trans (ic_1 rfl (oy_4 qx_cX3_pileNow_1 8 rfl)) (Eq.trans (alR_e rfl (oy_25 qx_cX3_pileNow_1 9 5 rfl rfl) rfl) (Eq.trans (alnR_e rfl (oy_42 qx_cX3_pileNow_1 11 rfl) rfl) (get_e rfl (oy_180 qx_cX3_pileNow_1 12 0 9 rfl rfl rfl rfl) rfl))))
theorem eX3_pileNow_47 {g : RO} {Q : Ot → Hw → Prop} {st : List Value} {w : Hw} {k n : Nat} {a : Int32} {l0 l2 l3 l4 l5 l6 : Option Value} : WP (MX3_pileNow g) Q (Prod.mk 47 (Prod.mk (List.cons l0 (List.cons (Option.some (Value.int a)) (List.cons l2 (List.cons l3 (List.cons l4 (List.cons l5 (List.cons l6 List.nil))))))) (Prod.mk st (Prod.mk w (Prod.mk k n))))) = WP (MX3_pileNow g) Q (Prod.mk 48 (Prod.mk (List.cons l0 (List.cons (Option.some (Value.int a)) (List.cons l2 (List.cons l3 (List.cons l4 (List.cons l5 (List.cons l6 List.nil))))))) (Prod.mk (List.cons (Value.int a) st) (Prod.mk w (Prod.mk k n))))) := iln_e rfl (oy_27 qx_cX3_pileNow_1 15 rfl) rfl
theorem eX3_pileNow_48 {g : RO} {Q : Ot → Hw → Prop} {st : List Value} {w : Hw} {k n p : Nat} {a : Int32} {l0 l1 l2 l3 l4 l5 l6 : Option Value} : WP (MX3_pileNow g) Q (Prod.mk 48 (Prod.mk (List.cons l0 (List.cons l1 (List.cons l2 (List.cons l3 (List.cons l4 (List.cons l5 (List.cons l6 List.nil))))))) (Prod.mk (List.cons (Value.int a) (List.cons (Value.ref p) st)) (Prod.mk w (Prod.mk k n))))) = gl (rd g w p) 0 fun N f => vp_in a N ∧ WP (MX3_pileNow g) Q (Prod.mk 49 (Prod.mk (List.cons l0 (List.cons l1 (List.cons l2 (List.cons l3 (List.cons l4 (List.cons l5 (List.cons l6 List.nil))))))) (Prod.mk (List.cons (Value.long (f a.toNatClampNeg)) st) (Prod.mk w (Prod.mk k n))))) := laload_e rfl (oy_47 qx_cX3_pileNow_1 16 rfl)
theorem eX3_pileNow_49 {g : RO} {Q : Ot → Hw → Prop} {w : Hw} {z1 : Int64} {st : List Value} {k n z0 : Nat} {l0 l1 l2 l3 l4 l5 l6 : Option Value} : WP (MX3_pileNow g) Q (Prod.mk 49 (Prod.mk (List.cons l0 (List.cons l1 (List.cons l2 (List.cons l3 (List.cons l4 (List.cons l5 (List.cons l6 List.nil))))))) (Prod.mk (List.cons (Value.long z1) (List.cons (Value.ref z0) st)) (Prod.mk w (Prod.mk k n))))) = (wt st ≤ 8 ∧ k + 0 ≤ 12 ∧ n + 0 ≤ 72 ∧ WP (MX3_valid g) (kx (fun v w' => WP (MX3_pileNow g) Q (Prod.mk 53 (Prod.mk (List.cons l0 (List.cons l1 (List.cons l2 (List.cons l3 (List.cons l4 (List.cons l5 (List.cons l6 List.nil))))))) (Prod.mk (v.toList ++ st) (Prod.mk w' (Prod.mk (k + 0) (n + 0))))))) (fun E w' => Q (.inr E) w')) (Prod.mk 0 (Prod.mk (List.cons (Option.some (Value.ref z0)) (List.cons (Option.some (Value.long z1)) (List.cons none (List.cons (Option.some (Value.int (0 : Int32))) List.nil)))) (Prod.mk List.nil (Prod.mk w (Prod.mk 0 0)))))) := Eq.trans (ic_0 rfl (oy_3 qx_cX3_pileNow_1 17 rfl)) (csS0 (M := (MX3_pileNow g)) (mc := (fun _ _ => 0)) (ms := (fun _ _ => 0)) (As := [.ref z0, .long z1, .int (0 : Int32)]) (rest := st) (MX3_valid g) rfl rfl rfl (oy_184 qx_cX3_pileNow_1 18 0 152 rfl rfl rfl rfl) rfl rfl rfl rfl rfl rfl rfl)
theorem eX3_pileNow_53 {g : RO} {Q : Ot → Hw → Prop} {st : List Value} {w : Hw} {k n p : Nat} {a b : Int32} {l0 l1 l2 l3 l4 l5 l6 : Option Value} : WP (MX3_pileNow g) Q (Prod.mk 53 (Prod.mk (List.cons l0 (List.cons l1 (List.cons l2 (List.cons l3 (List.cons l4 (List.cons l5 (List.cons l6 List.nil))))))) (Prod.mk (List.cons (Value.int b) (List.cons (Value.int a) (List.cons (Value.ref p) st))) (Prod.mk w (Prod.mk k n))))) = gb (w p) fun t N f => vp_in a N ∧ WP (MX3_pileNow g) Q (Prod.mk 54 (Prod.mk (List.cons l0 (List.cons l1 (List.cons l2 (List.cons l3 (List.cons l4 (List.cons l5 (List.cons l6 List.nil))))))) (Prod.mk st (Prod.mk (upw w p (.inl (t, N, .inl (upd f a.toNatClampNeg (vp_nar (bty t) b))))) (Prod.mk k n))))) := Eq.trans (WP_at (M := (MX3_pileNow g)) rfl (oy_84 qx_cX3_pileNow_1 21 rfl) (Or.inr rfl)) rfl
theorem eX3_pileNow_54R {g : RO} {Q : Ot → Hw → Prop} {w : Hw} {st : List Value} {k n p px1 px2 : Nat} {l1 l2 l3 l4 l6 : Option Value} : WP (MX3_pileNow g) Q (Prod.mk 54 (Prod.mk (List.cons (Option.some (Value.ref px2)) (List.cons l1 (List.cons l2 (List.cons l3 (List.cons l4 (List.cons (Option.some (Value.ref px1)) (List.cons l6 List.nil))))))) (Prod.mk (List.cons (Value.ref p) st) (Prod.mk w (Prod.mk k n))))) = go (rd g w px2) 7 fun fs => ∃ v, fs[1]? = some v ∧ WP (MX3_pileNow g) Q (Prod.mk 62 (Prod.mk (List.cons (Option.some (Value.ref px2)) (List.cons l1 (List.cons l2 (List.cons l3 (List.cons l4 (List.cons (Option.some (Value.ref px1)) (List.cons l6 List.nil))))))) (Prod.mk (List.cons v (List.cons (Value.ref px1) (List.cons (Value.int 2) (List.cons (Value.ref p) (List.cons (Value.ref p) st))))) (Prod.mk w (Prod.mk k n))))) := Eq.trans (dupR_e rfl (oy_89 qx_cX3_pileNow_1 22 rfl)) (Eq.trans (ic_2 rfl (oy_5 qx_cX3_pileNow_1 23 rfl)) (Eq.trans (alR_e rfl (oy_25 qx_cX3_pileNow_1 24 5 rfl rfl) rfl) (Eq.trans (alnR_e rfl (oy_42 qx_cX3_pileNow_1 26 rfl) rfl) (get_e rfl (oy_180 qx_cX3_pileNow_1 27 0 9 rfl rfl rfl rfl) rfl))))
theorem eX3_pileNow_62 {g : RO} {Q : Ot → Hw → Prop} {st : List Value} {w : Hw} {k n : Nat} {a : Int32} {l0 l2 l3 l4 l5 l6 : Option Value} : WP (MX3_pileNow g) Q (Prod.mk 62 (Prod.mk (List.cons l0 (List.cons (Option.some (Value.int a)) (List.cons l2 (List.cons l3 (List.cons l4 (List.cons l5 (List.cons l6 List.nil))))))) (Prod.mk st (Prod.mk w (Prod.mk k n))))) = WP (MX3_pileNow g) Q (Prod.mk 63 (Prod.mk (List.cons l0 (List.cons (Option.some (Value.int a)) (List.cons l2 (List.cons l3 (List.cons l4 (List.cons l5 (List.cons l6 List.nil))))))) (Prod.mk (List.cons (Value.int a) st) (Prod.mk w (Prod.mk k n))))) := iln_e rfl (oy_27 qx_cX3_pileNow_1 30 rfl) rfl
theorem eX3_pileNow_63 {g : RO} {Q : Ot → Hw → Prop} {st : List Value} {w : Hw} {k n p : Nat} {a : Int32} {l0 l1 l2 l3 l4 l5 l6 : Option Value} : WP (MX3_pileNow g) Q (Prod.mk 63 (Prod.mk (List.cons l0 (List.cons l1 (List.cons l2 (List.cons l3 (List.cons l4 (List.cons l5 (List.cons l6 List.nil))))))) (Prod.mk (List.cons (Value.int a) (List.cons (Value.ref p) st)) (Prod.mk w (Prod.mk k n))))) = gl (rd g w p) 0 fun N f => vp_in a N ∧ WP (MX3_pileNow g) Q (Prod.mk 64 (Prod.mk (List.cons l0 (List.cons l1 (List.cons l2 (List.cons l3 (List.cons l4 (List.cons l5 (List.cons l6 List.nil))))))) (Prod.mk (List.cons (Value.long (f a.toNatClampNeg)) st) (Prod.mk w (Prod.mk k n))))) := laload_e rfl (oy_47 qx_cX3_pileNow_1 31 rfl)
theorem eX3_pileNow_64 {g : RO} {Q : Ot → Hw → Prop} {w : Hw} {z1 : Int64} {st : List Value} {k n z0 : Nat} {l0 l1 l2 l3 l4 l5 l6 : Option Value} : WP (MX3_pileNow g) Q (Prod.mk 64 (Prod.mk (List.cons l0 (List.cons l1 (List.cons l2 (List.cons l3 (List.cons l4 (List.cons l5 (List.cons l6 List.nil))))))) (Prod.mk (List.cons (Value.long z1) (List.cons (Value.ref z0) st)) (Prod.mk w (Prod.mk k n))))) = (wt st ≤ 8 ∧ k + 0 ≤ 12 ∧ n + 0 ≤ 72 ∧ WP (MX3_valid g) (kx (fun v w' => WP (MX3_pileNow g) Q (Prod.mk 68 (Prod.mk (List.cons l0 (List.cons l1 (List.cons l2 (List.cons l3 (List.cons l4 (List.cons l5 (List.cons l6 List.nil))))))) (Prod.mk (v.toList ++ st) (Prod.mk w' (Prod.mk (k + 0) (n + 0))))))) (fun E w' => Q (.inr E) w')) (Prod.mk 0 (Prod.mk (List.cons (Option.some (Value.ref z0)) (List.cons (Option.some (Value.long z1)) (List.cons none (List.cons (Option.some (Value.int (1 : Int32))) List.nil)))) (Prod.mk List.nil (Prod.mk w (Prod.mk 0 0)))))) := Eq.trans (ic_1 rfl (oy_4 qx_cX3_pileNow_2 0 rfl)) (csS0 (M := (MX3_pileNow g)) (mc := (fun _ _ => 0)) (ms := (fun _ _ => 0)) (As := [.ref z0, .long z1, .int (1 : Int32)]) (rest := st) (MX3_valid g) rfl rfl rfl (oy_184 qx_cX3_pileNow_2 1 0 152 rfl rfl rfl rfl) rfl rfl rfl rfl rfl rfl rfl)
theorem eX3_pileNow_68 {g : RO} {Q : Ot → Hw → Prop} {st : List Value} {w : Hw} {k n p : Nat} {a b : Int32} {l0 l1 l2 l3 l4 l5 l6 : Option Value} : WP (MX3_pileNow g) Q (Prod.mk 68 (Prod.mk (List.cons l0 (List.cons l1 (List.cons l2 (List.cons l3 (List.cons l4 (List.cons l5 (List.cons l6 List.nil))))))) (Prod.mk (List.cons (Value.int b) (List.cons (Value.int a) (List.cons (Value.ref p) st))) (Prod.mk w (Prod.mk k n))))) = gb (w p) fun t N f => vp_in a N ∧ WP (MX3_pileNow g) Q (Prod.mk 69 (Prod.mk (List.cons l0 (List.cons l1 (List.cons l2 (List.cons l3 (List.cons l4 (List.cons l5 (List.cons l6 List.nil))))))) (Prod.mk st (Prod.mk (upw w p (.inl (t, N, .inl (upd f a.toNatClampNeg (vp_nar (bty t) b))))) (Prod.mk k n))))) := Eq.trans (WP_at (M := (MX3_pileNow g)) rfl (oy_84 qx_cX3_pileNow_2 4 rfl) (Or.inr rfl)) rfl
theorem eX3_pileNow_69R {g : RO} {Q : Ot → Hw → Prop} {w : Hw} {st : List Value} {k n p z0 : Nat} {l0 l1 l2 l3 l4 l6 : Option Value} : WP (MX3_pileNow g) Q (Prod.mk 69 (Prod.mk (List.cons l0 (List.cons l1 (List.cons l2 (List.cons l3 (List.cons l4 (List.cons (Option.some (Value.ref z0)) (List.cons l6 List.nil))))))) (Prod.mk (List.cons (Value.ref p) st) (Prod.mk w (Prod.mk k n))))) = (wt (List.cons (Value.int 3) (List.cons (Value.ref p) (List.cons (Value.ref p) st))) ≤ 8 ∧ k + 0 ≤ 12 ∧ n + 0 ≤ 72 ∧ WP (MX3_fixed g) (kx (fun v w' => WP (MX3_pileNow g) Q (Prod.mk 76 (Prod.mk (List.cons l0 (List.cons l1 (List.cons l2 (List.cons l3 (List.cons l4 (List.cons (Option.some (Value.ref z0)) (List.cons l6 List.nil))))))) (Prod.mk (v.toList ++ (List.cons (Value.int 3) (List.cons (Value.ref p) (List.cons (Value.ref p) st)))) (Prod.mk w' (Prod.mk (k + 0) (n + 0))))))) (fun E w' => Q (.inr E) w')) (Prod.mk 0 (Prod.mk (List.cons (Option.some (Value.ref z0)) List.nil) (Prod.mk List.nil (Prod.mk w (Prod.mk 0 0)))))) := Eq.trans (dupR_e rfl (oy_89 qx_cX3_pileNow_2 5 rfl)) (Eq.trans (ic_3 rfl (oy_6 qx_cX3_pileNow_2 6 rfl)) (Eq.trans (alR_e rfl (oy_25 qx_cX3_pileNow_2 7 5 rfl rfl) rfl) (csS0 (M := (MX3_pileNow g)) (mc := (fun _ _ => 0)) (ms := (fun _ _ => 0)) (As := [.ref z0]) (rest := (List.cons (Value.int 3) (List.cons (Value.ref p) (List.cons (Value.ref p) st)))) (MX3_fixed g) rfl rfl rfl (oy_184 qx_cX3_pileNow_2 9 0 130 rfl rfl rfl rfl) rfl rfl rfl rfl rfl rfl rfl)))
theorem eX3_pileNow_76 {g : RO} {Q : Ot → Hw → Prop} {st : List Value} {w : Hw} {k n p : Nat} {a b : Int32} {l0 l1 l2 l3 l4 l5 l6 : Option Value} : WP (MX3_pileNow g) Q (Prod.mk 76 (Prod.mk (List.cons l0 (List.cons l1 (List.cons l2 (List.cons l3 (List.cons l4 (List.cons l5 (List.cons l6 List.nil))))))) (Prod.mk (List.cons (Value.int b) (List.cons (Value.int a) (List.cons (Value.ref p) st))) (Prod.mk w (Prod.mk k n))))) = gb (w p) fun t N f => vp_in a N ∧ WP (MX3_pileNow g) Q (Prod.mk 77 (Prod.mk (List.cons l0 (List.cons l1 (List.cons l2 (List.cons l3 (List.cons l4 (List.cons l5 (List.cons l6 List.nil))))))) (Prod.mk st (Prod.mk (upw w p (.inl (t, N, .inl (upd f a.toNatClampNeg (vp_nar (bty t) b))))) (Prod.mk k n))))) := Eq.trans (WP_at (M := (MX3_pileNow g)) rfl (oy_84 qx_cX3_pileNow_2 12 rfl) (Or.inr rfl)) rfl
theorem eX3_pileNow_77R {g : RO} {Q : Ot → Hw → Prop} {w : Hw} {st : List Value} {k n p z0 : Nat} {l0 l1 l2 l3 l4 l6 : Option Value} : WP (MX3_pileNow g) Q (Prod.mk 77 (Prod.mk (List.cons l0 (List.cons l1 (List.cons l2 (List.cons l3 (List.cons l4 (List.cons (Option.some (Value.ref z0)) (List.cons l6 List.nil))))))) (Prod.mk (List.cons (Value.ref p) st) (Prod.mk w (Prod.mk k n))))) = (wt (List.cons (Value.int 4) (List.cons (Value.ref p) (List.cons (Value.ref p) st))) ≤ 8 ∧ k + 0 ≤ 12 ∧ n + 0 ≤ 72 ∧ WP (MX3_small g) (kx (fun v w' => WP (MX3_pileNow g) Q (Prod.mk 84 (Prod.mk (List.cons l0 (List.cons l1 (List.cons l2 (List.cons l3 (List.cons l4 (List.cons (Option.some (Value.ref z0)) (List.cons l6 List.nil))))))) (Prod.mk (v.toList ++ (List.cons (Value.int 4) (List.cons (Value.ref p) (List.cons (Value.ref p) st)))) (Prod.mk w' (Prod.mk (k + 0) (n + 0))))))) (fun E w' => Q (.inr E) w')) (Prod.mk 0 (Prod.mk (List.cons (Option.some (Value.ref z0)) List.nil) (Prod.mk List.nil (Prod.mk w (Prod.mk 0 0)))))) := Eq.trans (dupR_e rfl (oy_89 qx_cX3_pileNow_2 13 rfl)) (Eq.trans (ic_4 rfl (oy_7 qx_cX3_pileNow_2 14 rfl)) (Eq.trans (alR_e rfl (oy_25 qx_cX3_pileNow_2 15 5 rfl rfl) rfl) (csS0 (M := (MX3_pileNow g)) (mc := (fun _ _ => 0)) (ms := (fun _ _ => 0)) (As := [.ref z0]) (rest := (List.cons (Value.int 4) (List.cons (Value.ref p) (List.cons (Value.ref p) st)))) (MX3_small g) rfl rfl rfl (oy_184 qx_cX3_pileNow_2 17 0 137 rfl rfl rfl rfl) rfl rfl rfl rfl rfl rfl rfl)))
theorem eX3_pileNow_84 {g : RO} {Q : Ot → Hw → Prop} {st : List Value} {w : Hw} {k n p : Nat} {a b : Int32} {l0 l1 l2 l3 l4 l5 l6 : Option Value} : WP (MX3_pileNow g) Q (Prod.mk 84 (Prod.mk (List.cons l0 (List.cons l1 (List.cons l2 (List.cons l3 (List.cons l4 (List.cons l5 (List.cons l6 List.nil))))))) (Prod.mk (List.cons (Value.int b) (List.cons (Value.int a) (List.cons (Value.ref p) st))) (Prod.mk w (Prod.mk k n))))) = gb (w p) fun t N f => vp_in a N ∧ WP (MX3_pileNow g) Q (Prod.mk 85 (Prod.mk (List.cons l0 (List.cons l1 (List.cons l2 (List.cons l3 (List.cons l4 (List.cons l5 (List.cons l6 List.nil))))))) (Prod.mk st (Prod.mk (upw w p (.inl (t, N, .inl (upd f a.toNatClampNeg (vp_nar (bty t) b))))) (Prod.mk k n))))) := Eq.trans (WP_at (M := (MX3_pileNow g)) rfl (oy_84 qx_cX3_pileNow_2 20 rfl) (Or.inr rfl)) rfl
theorem eX3_pileNow_85R {g : RO} {Q : Ot → Hw → Prop} {w : Hw} {z0 : Int32} {st : List Value} {k n p px1 : Nat} {l1 l2 l3 l5 l6 : Option Value} : WP (MX3_pileNow g) Q (Prod.mk 85 (Prod.mk (List.cons (Option.some (Value.ref px1)) (List.cons l1 (List.cons l2 (List.cons l3 (List.cons (Option.some (Value.int z0)) (List.cons l5 (List.cons l6 List.nil))))))) (Prod.mk (List.cons (Value.ref p) st) (Prod.mk w (Prod.mk k n))))) = (go (rd g w px1) 7 (fun _ => True) ∧ wt (List.cons (Value.int 5) (List.cons (Value.ref p) (List.cons (Value.ref p) st))) ≤ 8 ∧ k + 0 ≤ 12 ∧ n + 0 ≤ 72 ∧ WP (MX3_isAhead g) (kx (fun v w' => WP (MX3_pileNow g) Q (Prod.mk 93 (Prod.mk (List.cons (Option.some (Value.ref px1)) (List.cons l1 (List.cons l2 (List.cons l3 (List.cons (Option.some (Value.int z0)) (List.cons l5 (List.cons l6 List.nil))))))) (Prod.mk (v.toList ++ (List.cons (Value.int 5) (List.cons (Value.ref p) (List.cons (Value.ref p) st)))) (Prod.mk w' (Prod.mk (k + 0) (n + 0))))))) (fun E w' => Q (.inr E) w')) (Prod.mk 0 (Prod.mk (List.cons (Option.some (Value.ref px1)) (List.cons (Option.some (Value.int z0)) (List.cons none (List.cons none List.nil)))) (Prod.mk List.nil (Prod.mk w (Prod.mk 0 0)))))) := Eq.trans (dupR_e rfl (oy_89 qx_cX3_pileNow_2 21 rfl)) (Eq.trans (ic_5 rfl (oy_8 qx_cX3_pileNow_2 22 rfl)) (Eq.trans (alnR_e rfl (oy_42 qx_cX3_pileNow_2 23 rfl) rfl) (Eq.trans (il_e rfl (oy_21 qx_cX3_pileNow_2 24 4 rfl rfl) rfl) (csV0 (M := (MX3_pileNow g)) (mc := (fun _ _ => 0)) (ms := (fun _ _ => 0)) (As := [.int z0]) (rest := (List.cons (Value.int 5) (List.cons (Value.ref p) (List.cons (Value.ref p) st)))) (MX3_isAhead g) rfl rfl rfl (oy_182 qx_cX3_pileNow_2 26 0 204 rfl rfl rfl rfl) rfl rfl rfl rfl rfl rfl))))
theorem eX3_pileNow_93 {g : RO} {Q : Ot → Hw → Prop} {st : List Value} {w : Hw} {k n p : Nat} {a b : Int32} {l0 l1 l2 l3 l4 l5 l6 : Option Value} : WP (MX3_pileNow g) Q (Prod.mk 93 (Prod.mk (List.cons l0 (List.cons l1 (List.cons l2 (List.cons l3 (List.cons l4 (List.cons l5 (List.cons l6 List.nil))))))) (Prod.mk (List.cons (Value.int b) (List.cons (Value.int a) (List.cons (Value.ref p) st))) (Prod.mk w (Prod.mk k n))))) = gb (w p) fun t N f => vp_in a N ∧ WP (MX3_pileNow g) Q (Prod.mk 94 (Prod.mk (List.cons l0 (List.cons l1 (List.cons l2 (List.cons l3 (List.cons l4 (List.cons l5 (List.cons l6 List.nil))))))) (Prod.mk st (Prod.mk (upw w p (.inl (t, N, .inl (upd f a.toNatClampNeg (vp_nar (bty t) b))))) (Prod.mk k n))))) := Eq.trans (WP_at (M := (MX3_pileNow g)) rfl (oy_84 qx_cX3_pileNow_2 29 rfl) (Or.inr rfl)) rfl
theorem eX3_pileNow_94 {g : RO} {Q : Ot → Hw → Prop} {w : Hw} {a ax1 : Int32} {st : List Value} {k n p : Nat} {l0 l1 l4 l5 l6 : Option Value} : WP (MX3_pileNow g) Q (Prod.mk 94 (Prod.mk (List.cons l0 (List.cons l1 (List.cons (Option.some (Value.int ax1)) (List.cons (Option.some (Value.int a)) (List.cons l4 (List.cons l5 (List.cons l6 List.nil))))))) (Prod.mk (List.cons (Value.ref p) st) (Prod.mk w (Prod.mk k n))))) = gb (rd g w p) fun _ N f => vp_in ax1 N ∧ WP (MX3_pileNow g) Q (Prod.mk 101 (Prod.mk (List.cons l0 (List.cons l1 (List.cons (Option.some (Value.int ax1)) (List.cons (Option.some (Value.int a)) (List.cons l4 (List.cons (nl l5) (List.cons (Option.some (Value.ref p)) List.nil))))))) (Prod.mk (List.cons (Value.int (f ax1.toNatClampNeg)) (List.cons (Value.int a) st)) (Prod.mk w (Prod.mk k n))))) := Eq.trans (asR_e rfl (oy_58 qx_cX3_pileNow_2 30 6 rfl rfl) rfl rfl) (Eq.trans (iln_e rfl (oy_29 qx_cX3_pileNow_3 0 rfl) rfl) (Eq.trans (alR_e rfl (oy_25 qx_cX3_pileNow_3 1 6 rfl rfl) rfl) (Eq.trans (iln_e rfl (oy_28 qx_cX3_pileNow_3 3 rfl) rfl) (Eq.trans (WP_at (M := (MX3_pileNow g)) rfl (oy_51 qx_cX3_pileNow_3 4 rfl) (Or.inr rfl)) rfl))))
theorem eX3_pileNow_101 {g : RO} {Q : Ot → Hw → Prop} {st : List Value} {w : Hw} {k n : Nat} {l0 l1 l2 l3 l4 l5 l6 : Option Value} {z0 : Int32} : WP (MX3_pileNow g) Q (Prod.mk 101 (Prod.mk (List.cons l0 (List.cons l1 (List.cons l2 (List.cons l3 (List.cons l4 (List.cons l5 (List.cons l6 List.nil))))))) (Prod.mk (List.cons (Value.int z0) st) (Prod.mk w (Prod.mk k n))))) = (wt st ≤ 8 ∧ k + 0 ≤ 12 ∧ n + 0 ≤ 72 ∧ WP (MX3_one g) (kx (fun v w' => WP (MX3_pileNow g) Q (Prod.mk 104 (Prod.mk (List.cons l0 (List.cons l1 (List.cons l2 (List.cons l3 (List.cons l4 (List.cons l5 (List.cons l6 List.nil))))))) (Prod.mk (v.toList ++ st) (Prod.mk w' (Prod.mk (k + 0) (n + 0))))))) (fun E w' => Q (.inr E) w')) (Prod.mk 0 (Prod.mk (List.cons (Option.some (Value.int z0)) List.nil) (Prod.mk List.nil (Prod.mk w (Prod.mk 0 0)))))) := csS0 (M := (MX3_pileNow g)) (mc := (fun _ _ => 0)) (ms := (fun _ _ => 0)) (As := [.int z0]) (rest := st) (MX3_one g) rfl rfl rfl (oy_184 qx_cX3_pileNow_3 5 0 92 rfl rfl rfl rfl) rfl rfl rfl rfl rfl rfl rfl
theorem eX3_pileNow_104 {g : RO} {Q : Ot → Hw → Prop} {w : Hw} {a ax1 b : Int32} {st : List Value} {k n : Nat} {l0 l1 l2 l3 l5 l6 : Option Value} : WP (MX3_pileNow g) Q (Prod.mk 104 (Prod.mk (List.cons l0 (List.cons l1 (List.cons l2 (List.cons l3 (List.cons (Option.some (Value.int ax1)) (List.cons l5 (List.cons l6 List.nil))))))) (Prod.mk (List.cons (Value.int b) (List.cons (Value.int a) st)) (Prod.mk w (Prod.mk k n))))) = WP (MX3_pileNow g) Q (Prod.mk 5 (Prod.mk (List.cons l0 (List.cons l1 (List.cons (nl l2) (List.cons (nl (Option.some (Value.int (a + b)))) (List.cons (Option.some (Value.int (ax1 + 1))) (List.cons l5 (List.cons l6 List.nil))))))) (Prod.mk st (Prod.mk w (Prod.mk k n))))) := Eq.trans (iadd_e rfl (oy_96 qx_cX3_pileNow_3 8 rfl)) (Eq.trans (isn_e rfl (oy_62 qx_cX3_pileNow_3 9 rfl) rfl rfl) (Eq.trans (Eq.trans (iinc_e (M := (MX3_pileNow g)) (L := [l0, l1, (nl l2), (Option.some (Value.int (a + b))), some (.int ax1), l5, l6]) (d := 1) rfl (oy_132 qx_cX3_pileNow_3 10 4 1 rfl rfl rfl rfl) (by decide) rfl) rfl) (goto_e rfl (oy_167 qx_cX3_pileNow_3 13 255 152 rfl rfl rfl rfl) (by decide))))
set_option maxRecDepth 20000 in
theorem eX3_pileNow_112 {g : RO} {Q : Ot → Hw → Prop} {w : Hw} {a : Int32} {k n : Nat} {l0 l1 l2 l4 l5 l6 : Option Value} : WP (MX3_pileNow g) Q (Prod.mk 112 (Prod.mk (List.cons l0 (List.cons l1 (List.cons l2 (List.cons (Option.some (Value.int a)) (List.cons l4 (List.cons l5 (List.cons l6 List.nil))))))) (Prod.mk List.nil (Prod.mk w (Prod.mk k n))))) = (k ≤ 12 ∧ n ≤ 72 ∧ Q (.inl (Option.some (Value.int a))) w) := Eq.trans (iln_e rfl (oy_29 qx_cX3_pileNow_3 16 rfl) rfl) (iretI_e rfl (oy_172 qx_cX3_pileNow_3 17 rfl) rfl)
theorem wk_1643 : (.code yX3_isAhead cX3_isAhead 4 (some .boolean) : Jvm.Cond) ∈ WS := WS_t7 145 (by eq_refl) (by eq_refl)
theorem wk_1640 : (.methodLink RX3 204 yX3_isAhead : Jvm.Cond) ∈ WS := WS_t7 142 (by eq_refl) (by eq_refl)
theorem wk_1642 : (.instanceMethod yX3_isAhead : Jvm.Cond) ∈ WS := WS_t7 144 (by eq_refl) (by eq_refl)
theorem wk_56 : (.selects RX3 yX3_isAhead yX3_isAhead : Jvm.Cond) ∈ WS := WS_at 56 (by decide +kernel) rfl
theorem kc_74 {l : Launch} (hl : l.stackTraces = false) {G : GT} {own : String} {i : Nat} (hw : Jvm.Cond.methodLink own i yX3_isAhead ∈ WS) : vCal l G own i (2, 2, 7, 4, (fun _ _ => 0), (fun _ _ => 0), yX3_isAhead, spOf (MX3_isAhead (gg G))) := ⟨cX3_isAhead, 4, some .boolean, fun y hy => by subst hy; exact ⟨Nat.le_of_ble_eq_true rfl, ⟨_, wk_1643, okX3_isAhead hl, Or.inl ⟨Nat.ne_of_beq_eq_false rfl, rfl⟩⟩, wk_60, nc13, ⟨pd38, hw, wk_1642, wk_56, (RX3, TX3, 7), rfl, rfl⟩⟩⟩
theorem vMX3_pileNow {l : Launch} (hl : l.stackTraces = false) (G : GT) : vM l G (MX3_pileNow (gg G)) := vM_k RX3 cX3_pileNow rfl rfl (all_c (vF_RX3_20) (all_c (vF_RX3_9) (all_n))) all_n all_n all_n all_n (fun h => absurd rfl h) (all_c (kc_68 hl wk_1520) (all_c (kc_37 hl wk_1376) (all_c (kc_62 hl wk_1459) (all_c (kc_56 hl wk_1392) (all_c (kc_58 hl wk_1427) (all_c (kc_74 hl wk_1640) (all_c (kc_47 hl wk_1311) (all_n)))))))) all_n (all_c (⟨.long, rfl, (fun C h => by cases h), wk_1380⟩) (all_n)) (fun h => absurd rfl h) rfl all_n
theorem okX3_pileNow {l : Launch} (hl : l.stackTraces = false) {G : GT} : ∀ (args : List Value) (w : Hw) (S : Ot → Hw → Prop), spOf (MX3_pileNow (gg G)) args w S → CX l G yX3_pileNow (.code yX3_pileNow cX3_pileNow 7 (some .int)) 5 12 72 args w S := CX_sp (M := MX3_pileNow (gg G)) (y := yX3_pileNow) hl pn15 rfl (vMX3_pileNow hl G) (fun h => by cases h) rfl
theorem qx_cX3_pile_0 : ((cX3_pile.data.toList.drop 0).take 38).map UInt8.toNat = [42, 27, 184, 0, 50, 4, 182, 0, 54, 154, 0, 25, 42, 28, 3, 8, 184, 0, 38, 154, 0, 7, 4, 167, 0, 4, 3, 5, 182, 0, 31, 153, 0, 7, 3, 167, 0, 9] := by decide +kernel
theorem qx_cX3_pile_1 : ((cX3_pile.data.toList.drop 32).take 38).map UInt8.toNat = [0, 7, 3, 167, 0, 9, 42, 27, 28, 182, 0, 207, 172] := by decide +kernel
noncomputable def MX3_pile (g : RO) : MT := ((RX3, cX3_pile, 3, 6, 12, 72, false, some .int), [], [], [], [], [], 0, [(50, 0, 1, 0, 2, (fun _ _ => 0), (fun _ _ => 0), yX3_isNoNumber, spOf (MX3_isNoNumber g)), (54, 2, 3, 7, 2, (fun _ _ => 0), (fun _ _ => 0), yX3_start, spOf (MX3_start g)), (38, 0, 3, 0, 1, (fun _ _ => 0), (fun _ _ => 0), yX3_isIn, spOf (MX3_isIn g)), (31, 2, 3, 7, 1, (fun _ _ => 0), (fun _ _ => 0), yX3_refuse, spOf (MX3_refuse g)), (207, 2, 3, 7, 5, (fun _ _ => 12), (fun _ _ => 72), yX3_pileNow, spOf (MX3_pileNow g))], [], [], 0, [], [], g)
theorem eX3_pile_0 {g : RO} {Q : Ot → Hw → Prop} {w : Hw} {z0 : Int32} {st : List Value} {k n p : Nat} {l2 : Option Value} : WP (MX3_pile g) Q (Prod.mk 0 (Prod.mk (List.cons (Option.some (Value.ref p)) (List.cons (Option.some (Value.int z0)) (List.cons l2 List.nil))) (Prod.mk st (Prod.mk w (Prod.mk k n))))) = (wt (List.cons (Value.ref p) st) ≤ 8 ∧ k + 0 ≤ 12 ∧ n + 0 ≤ 72 ∧ WP (MX3_isNoNumber g) (kx (fun v w' => WP (MX3_pile g) Q (Prod.mk 5 (Prod.mk (List.cons (Option.some (Value.ref p)) (List.cons (Option.some (Value.int z0)) (List.cons l2 List.nil))) (Prod.mk (v.toList ++ (List.cons (Value.ref p) st)) (Prod.mk w' (Prod.mk (k + 0) (n + 0))))))) (fun E w' => Q (.inr E) w')) (Prod.mk 0 (Prod.mk (List.cons (Option.some (Value.int z0)) List.nil) (Prod.mk List.nil (Prod.mk w (Prod.mk 0 0)))))) := Eq.trans (alnR_e rfl (oy_42 qx_cX3_pile_0 0 rfl) rfl) (Eq.trans (iln_e rfl (oy_27 qx_cX3_pile_0 1 rfl) rfl) (csS0 (M := (MX3_pile g)) (mc := (fun _ _ => 0)) (ms := (fun _ _ => 0)) (As := [.int z0]) (rest := (List.cons (Value.ref p) st)) (MX3_isNoNumber g) rfl rfl rfl (oy_184 qx_cX3_pile_0 2 0 50 rfl rfl rfl rfl) rfl rfl rfl rfl rfl rfl rfl))
theorem eX3_pile_5 {g : RO} {Q : Ot → Hw → Prop} {st : List Value} {w : Hw} {k n : Nat} {l0 l1 l2 : Option Value} : WP (MX3_pile g) Q (Prod.mk 5 (Prod.mk (List.cons l0 (List.cons l1 (List.cons l2 List.nil))) (Prod.mk st (Prod.mk w (Prod.mk k n))))) = WP (MX3_pile g) Q (Prod.mk 6 (Prod.mk (List.cons l0 (List.cons l1 (List.cons l2 List.nil))) (Prod.mk (List.cons (Value.int 1) st) (Prod.mk w (Prod.mk k n))))) := ic_1 rfl (oy_4 qx_cX3_pile_0 5 rfl)
theorem eX3_pile_6 {g : RO} {Q : Ot → Hw → Prop} {st : List Value} {w : Hw} {k n p : Nat} {l0 l1 l2 : Option Value} {z0 : Int32} {z1 : Int32} : WP (MX3_pile g) Q (Prod.mk 6 (Prod.mk (List.cons l0 (List.cons l1 (List.cons l2 List.nil))) (Prod.mk (List.cons (Value.int z1) (List.cons (Value.int z0) (List.cons (Value.ref p) st))) (Prod.mk w (Prod.mk k n))))) = (go (rd g w p) 7 (fun _ => True) ∧ wt st ≤ 8 ∧ k + 0 ≤ 12 ∧ n + 0 ≤ 72 ∧ WP (MX3_start g) (kx (fun v w' => WP (MX3_pile g) Q (Prod.mk 9 (Prod.mk (List.cons l0 (List.cons l1 (List.cons l2 List.nil))) (Prod.mk (v.toList ++ st) (Prod.mk w' (Prod.mk (k + 0) (n + 0))))))) (fun E w' => Q (.inr E) w')) (Prod.mk 0 (Prod.mk (List.cons (Option.some (Value.ref p)) (List.cons (Option.some (Value.int z0)) (List.cons (Option.some (Value.int z1)) List.nil))) (Prod.mk List.nil (Prod.mk w (Prod.mk 0 0)))))) := csV0 (M := (MX3_pile g)) (mc := (fun _ _ => 0)) (ms := (fun _ _ => 0)) (As := [.int z0, .int z1]) (rest := st) (MX3_start g) rfl rfl rfl (oy_182 qx_cX3_pile_0 6 0 54 rfl rfl rfl rfl) rfl rfl rfl rfl rfl rfl
theorem eX3_pile_9 {g : RO} {Q : Ot → Hw → Prop} {st : List Value} {w : Hw} {k n : Nat} {a : Int32} {l0 l1 l2 : Option Value} : WP (MX3_pile g) Q (Prod.mk 9 (Prod.mk (List.cons l0 (List.cons l1 (List.cons l2 List.nil))) (Prod.mk (List.cons (Value.int a) st) (Prod.mk w (Prod.mk k n))))) = if a = 0 then WP (MX3_pile g) Q (Prod.mk 12 (Prod.mk (List.cons l0 (List.cons l1 (List.cons l2 List.nil))) (Prod.mk st (Prod.mk w (Prod.mk k n))))) else WP (MX3_pile g) Q (Prod.mk 34 (Prod.mk (List.cons l0 (List.cons l1 (List.cons l2 List.nil))) (Prod.mk st (Prod.mk w (Prod.mk k n))))) := ifcn_e (a = 0) rfl (oy_154 qx_cX3_pile_0 9 0 25 rfl rfl rfl rfl) rfl (by decide)
theorem eX3_pile_12 {g : RO} {Q : Ot → Hw → Prop} {w : Hw} {z0 : Int32} {st : List Value} {k n p : Nat} {l1 : Option Value} : WP (MX3_pile g) Q (Prod.mk 12 (Prod.mk (List.cons (Option.some (Value.ref p)) (List.cons l1 (List.cons (Option.some (Value.int z0)) List.nil))) (Prod.mk st (Prod.mk w (Prod.mk k n))))) = (wt (List.cons (Value.ref p) st) ≤ 8 ∧ k + 0 ≤ 12 ∧ n + 0 ≤ 72 ∧ WP (MX3_isIn g) (kx (fun v w' => WP (MX3_pile g) Q (Prod.mk 19 (Prod.mk (List.cons (Option.some (Value.ref p)) (List.cons l1 (List.cons (Option.some (Value.int z0)) List.nil))) (Prod.mk (v.toList ++ (List.cons (Value.ref p) st)) (Prod.mk w' (Prod.mk (k + 0) (n + 0))))))) (fun E w' => Q (.inr E) w')) (Prod.mk 0 (Prod.mk (List.cons (Option.some (Value.int z0)) (List.cons (Option.some (Value.int (0 : Int32))) (List.cons (Option.some (Value.int (5 : Int32))) List.nil))) (Prod.mk List.nil (Prod.mk w (Prod.mk 0 0)))))) := Eq.trans (alnR_e rfl (oy_42 qx_cX3_pile_0 12 rfl) rfl) (Eq.trans (iln_e rfl (oy_28 qx_cX3_pile_0 13 rfl) rfl) (Eq.trans (ic_0 rfl (oy_3 qx_cX3_pile_0 14 rfl)) (Eq.trans (ic_5 rfl (oy_8 qx_cX3_pile_0 15 rfl)) (csS0 (M := (MX3_pile g)) (mc := (fun _ _ => 0)) (ms := (fun _ _ => 0)) (As := [.int z0, .int (0 : Int32), .int (5 : Int32)]) (rest := (List.cons (Value.ref p) st)) (MX3_isIn g) rfl rfl rfl (oy_184 qx_cX3_pile_0 16 0 38 rfl rfl rfl rfl) rfl rfl rfl rfl rfl rfl rfl))))
theorem eX3_pile_19 {g : RO} {Q : Ot → Hw → Prop} {st : List Value} {w : Hw} {k n : Nat} {a : Int32} {l0 l1 l2 : Option Value} : WP (MX3_pile g) Q (Prod.mk 19 (Prod.mk (List.cons l0 (List.cons l1 (List.cons l2 List.nil))) (Prod.mk (List.cons (Value.int a) st) (Prod.mk w (Prod.mk k n))))) = if a = 0 then WP (MX3_pile g) Q (Prod.mk 22 (Prod.mk (List.cons l0 (List.cons l1 (List.cons l2 List.nil))) (Prod.mk st (Prod.mk w (Prod.mk k n))))) else WP (MX3_pile g) Q (Prod.mk 26 (Prod.mk (List.cons l0 (List.cons l1 (List.cons l2 List.nil))) (Prod.mk st (Prod.mk w (Prod.mk k n))))) := ifcn_e (a = 0) rfl (oy_154 qx_cX3_pile_0 19 0 7 rfl rfl rfl rfl) rfl (by decide)
theorem eX3_pile_22 {g : RO} {Q : Ot → Hw → Prop} {w : Hw} {st : List Value} {k n : Nat} {l0 l1 l2 : Option Value} : WP (MX3_pile g) Q (Prod.mk 22 (Prod.mk (List.cons l0 (List.cons l1 (List.cons l2 List.nil))) (Prod.mk st (Prod.mk w (Prod.mk k n))))) = WP (MX3_pile g) Q (Prod.mk 27 (Prod.mk (List.cons l0 (List.cons l1 (List.cons l2 List.nil))) (Prod.mk (List.cons (Value.int 1) st) (Prod.mk w (Prod.mk k n))))) := Eq.trans (ic_1 rfl (oy_4 qx_cX3_pile_0 22 rfl)) (goto_e rfl (oy_167 qx_cX3_pile_0 23 0 4 rfl rfl rfl rfl) (by decide))
theorem eX3_pile_26 {g : RO} {Q : Ot → Hw → Prop} {st : List Value} {w : Hw} {k n : Nat} {l0 l1 l2 : Option Value} : WP (MX3_pile g) Q (Prod.mk 26 (Prod.mk (List.cons l0 (List.cons l1 (List.cons l2 List.nil))) (Prod.mk st (Prod.mk w (Prod.mk k n))))) = WP (MX3_pile g) Q (Prod.mk 27 (Prod.mk (List.cons l0 (List.cons l1 (List.cons l2 List.nil))) (Prod.mk (List.cons (Value.int 0) st) (Prod.mk w (Prod.mk k n))))) := ic_0 rfl (oy_3 qx_cX3_pile_0 26 rfl)
theorem eX3_pile_27 {g : RO} {Q : Ot → Hw → Prop} {w : Hw} {z0 : Int32} {st : List Value} {k n p : Nat} {l0 l1 l2 : Option Value} : WP (MX3_pile g) Q (Prod.mk 27 (Prod.mk (List.cons l0 (List.cons l1 (List.cons l2 List.nil))) (Prod.mk (List.cons (Value.int z0) (List.cons (Value.ref p) st)) (Prod.mk w (Prod.mk k n))))) = (go (rd g w p) 7 (fun _ => True) ∧ wt st ≤ 8 ∧ k + 0 ≤ 12 ∧ n + 0 ≤ 72 ∧ WP (MX3_refuse g) (kx (fun v w' => WP (MX3_pile g) Q (Prod.mk 31 (Prod.mk (List.cons l0 (List.cons l1 (List.cons l2 List.nil))) (Prod.mk (v.toList ++ st) (Prod.mk w' (Prod.mk (k + 0) (n + 0))))))) (fun E w' => Q (.inr E) w')) (Prod.mk 0 (Prod.mk (List.cons (Option.some (Value.ref p)) (List.cons (Option.some (Value.int z0)) (List.cons (Option.some (Value.int (2 : Int32))) List.nil))) (Prod.mk List.nil (Prod.mk w (Prod.mk 0 0)))))) := Eq.trans (ic_2 rfl (oy_5 qx_cX3_pile_0 27 rfl)) (csV0 (M := (MX3_pile g)) (mc := (fun _ _ => 0)) (ms := (fun _ _ => 0)) (As := [.int z0, .int (2 : Int32)]) (rest := st) (MX3_refuse g) rfl rfl rfl (oy_182 qx_cX3_pile_0 28 0 31 rfl rfl rfl rfl) rfl rfl rfl rfl rfl rfl)
theorem eX3_pile_31 {g : RO} {Q : Ot → Hw → Prop} {st : List Value} {w : Hw} {k n : Nat} {a : Int32} {l0 l1 l2 : Option Value} : WP (MX3_pile g) Q (Prod.mk 31 (Prod.mk (List.cons l0 (List.cons l1 (List.cons l2 List.nil))) (Prod.mk (List.cons (Value.int a) st) (Prod.mk w (Prod.mk k n))))) = if a = 0 then WP (MX3_pile g) Q (Prod.mk 38 (Prod.mk (List.cons l0 (List.cons l1 (List.cons l2 List.nil))) (Prod.mk st (Prod.mk w (Prod.mk k n))))) else WP (MX3_pile g) Q (Prod.mk 34 (Prod.mk (List.cons l0 (List.cons l1 (List.cons l2 List.nil))) (Prod.mk st (Prod.mk w (Prod.mk k n))))) := ifc_e (a = 0) rfl (oy_153 qx_cX3_pile_0 31 0 7 rfl rfl rfl rfl) rfl (by decide)
theorem eX3_pile_34 {g : RO} {Q : Ot → Hw → Prop} {w : Hw} {st : List Value} {k n : Nat} {l0 l1 l2 : Option Value} : WP (MX3_pile g) Q (Prod.mk 34 (Prod.mk (List.cons l0 (List.cons l1 (List.cons l2 List.nil))) (Prod.mk st (Prod.mk w (Prod.mk k n))))) = WP (MX3_pile g) Q (Prod.mk 44 (Prod.mk (List.cons l0 (List.cons l1 (List.cons l2 List.nil))) (Prod.mk (List.cons (Value.int 0) st) (Prod.mk w (Prod.mk k n))))) := Eq.trans (ic_0 rfl (oy_3 qx_cX3_pile_1 2 rfl)) (goto_e rfl (oy_167 qx_cX3_pile_1 3 0 9 rfl rfl rfl rfl) (by decide))
theorem eX3_pile_38 {g : RO} {Q : Ot → Hw → Prop} {w : Hw} {z0 z1 : Int32} {st : List Value} {k n p : Nat} : WP (MX3_pile g) Q (Prod.mk 38 (Prod.mk (List.cons (Option.some (Value.ref p)) (List.cons (Option.some (Value.int z0)) (List.cons (Option.some (Value.int z1)) List.nil))) (Prod.mk st (Prod.mk w (Prod.mk k n))))) = (go (rd g w p) 7 (fun _ => True) ∧ wt st ≤ 8 ∧ k + 12 ≤ 12 ∧ n + 72 ≤ 72 ∧ WP (MX3_pileNow g) (kx (fun v w' => WP (MX3_pile g) Q (Prod.mk 44 (Prod.mk (List.cons (Option.some (Value.ref p)) (List.cons (Option.some (Value.int z0)) (List.cons (Option.some (Value.int z1)) List.nil))) (Prod.mk (v.toList ++ st) (Prod.mk w' (Prod.mk (k + 12) (n + 72))))))) (fun E w' => Q (.inr E) w')) (Prod.mk 0 (Prod.mk (List.cons (Option.some (Value.ref p)) (List.cons (Option.some (Value.int z0)) (List.cons (Option.some (Value.int z1)) (List.cons none (List.cons none (List.cons none (List.cons none List.nil))))))) (Prod.mk List.nil (Prod.mk w (Prod.mk 0 0)))))) := Eq.trans (alnR_e rfl (oy_42 qx_cX3_pile_1 6 rfl) rfl) (Eq.trans (iln_e rfl (oy_27 qx_cX3_pile_1 7 rfl) rfl) (Eq.trans (iln_e rfl (oy_28 qx_cX3_pile_1 8 rfl) rfl) (csV0 (M := (MX3_pile g)) (mc := (fun _ _ => 12)) (ms := (fun _ _ => 72)) (As := [.int z0, .int z1]) (rest := st) (MX3_pileNow g) rfl rfl rfl (oy_182 qx_cX3_pile_1 9 0 207 rfl rfl rfl rfl) rfl rfl rfl rfl rfl rfl)))
set_option maxRecDepth 20000 in
theorem eX3_pile_44 {g : RO} {Q : Ot → Hw → Prop} {w : Hw} {k n : Nat} {a : Int32} {l0 l1 l2 : Option Value} : WP (MX3_pile g) Q (Prod.mk 44 (Prod.mk (List.cons l0 (List.cons l1 (List.cons l2 List.nil))) (Prod.mk (List.cons (Value.int a) List.nil) (Prod.mk w (Prod.mk k n))))) = (k ≤ 12 ∧ n ≤ 72 ∧ Q (.inl (Option.some (Value.int a))) w) := iretI_e rfl (oy_172 qx_cX3_pile_1 12 rfl) rfl
theorem wk_1639 : (.code yX3_pileNow cX3_pileNow 7 (some .int) : Jvm.Cond) ∈ WS := WS_t7 141 (by eq_refl) (by eq_refl)
theorem wk_1636 : (.methodLink RX3 207 yX3_pileNow : Jvm.Cond) ∈ WS := WS_t7 138 (by eq_refl) (by eq_refl)
theorem wk_1638 : (.instanceMethod yX3_pileNow : Jvm.Cond) ∈ WS := WS_t7 140 (by eq_refl) (by eq_refl)
theorem wk_55 : (.selects RX3 yX3_pileNow yX3_pileNow : Jvm.Cond) ∈ WS := WS_at 55 (by decide +kernel) rfl
theorem kc_75 {l : Launch} (hl : l.stackTraces = false) {G : GT} {own : String} {i : Nat} (hw : Jvm.Cond.methodLink own i yX3_pileNow ∈ WS) : vCal l G own i (2, 3, 7, 5, (fun _ _ => 12), (fun _ _ => 72), yX3_pileNow, spOf (MX3_pileNow (gg G))) := ⟨cX3_pileNow, 7, some .int, fun y hy => by subst hy; exact ⟨Nat.le_of_ble_eq_true rfl, ⟨_, wk_1639, okX3_pileNow hl, Or.inl ⟨Nat.ne_of_beq_eq_false rfl, rfl⟩⟩, wk_60, nc13, ⟨pd45, hw, wk_1638, wk_55, (RX3, TX3, 7), rfl, rfl⟩⟩⟩
theorem vMX3_pile {l : Launch} (hl : l.stackTraces = false) (G : GT) : vM l G (MX3_pile (gg G)) := vM_k RX3 cX3_pile rfl rfl all_n all_n all_n all_n all_n (fun h => absurd rfl h) (all_c (kc_38 hl wk_1222) (all_c (kc_39 hl wk_1228) (all_c (kc_36 hl wk_1225) (all_c (kc_35 hl wk_1232) (all_c (kc_75 hl wk_1636) (all_n)))))) all_n all_n (fun h => absurd rfl h) rfl all_n
theorem okX3_pile {l : Launch} (hl : l.stackTraces = false) {G : GT} : ∀ (args : List Value) (w : Hw) (S : Ot → Hw → Prop), spOf (MX3_pile (gg G)) args w S → CX l G yX3_pile (.code yX3_pile cX3_pile 3 (some .int)) 6 12 72 args w S := CX_sp (M := MX3_pile (gg G)) (y := yX3_pile) hl pn15 rfl (vMX3_pile hl G) (fun h => by cases h) rfl
end
/-! 40.model13.lean.txt -/
section
theorem qx_cX3_houseNow_0 : ((cX3_houseNow.data.toList.drop 0).take 38).map UInt8.toNat = [3, 61, 42, 180, 0, 16, 182, 0, 181, 78, 45, 185, 0, 185, 1, 0, 153, 0, 33, 45, 185, 0, 191, 1, 0, 192, 0, 125, 58, 4, 28, 25, 4, 198, 0, 7, 4, 167] := by decide +kernel
theorem qx_cX3_houseNow_1 : ((cX3_houseNow.data.toList.drop 32).take 38).map UInt8.toNat = [4, 198, 0, 7, 4, 167, 0, 4, 3, 184, 0, 92, 96, 61, 167, 255, 220, 8, 188, 10, 89, 3, 28, 79, 89, 4, 42, 180, 0, 20, 182, 0, 174, 79, 89, 5, 42, 180] := by decide +kernel
theorem qx_cX3_houseNow_2 : ((cX3_houseNow.data.toList.drop 64).take 38).map UInt8.toNat = [174, 79, 89, 5, 42, 180, 0, 35, 79, 89, 6, 42, 180, 0, 210, 79, 89, 7, 42, 180, 0, 108, 79, 78, 45, 27, 46, 172] := by decide +kernel
theorem dX3_houseNow_11 : decode cX3_houseNow 11 = .ok (.invokeinterface 185 1, 5) := by decide +kernel
theorem dX3_houseNow_20 : decode cX3_houseNow 20 = .ok (.invokeinterface 191 1, 5) := by decide +kernel
noncomputable def MX3_houseNow (g : RO) : MT := ((RX3, cX3_houseNow, 5, 3, 2, 9, false, some .int), [(16, 7, 2), (20, 7, 3), (35, 7, 4), (210, 7, 5), (108, 7, 6)], [], [], [], [], 0, [(181, 2, 1, 3, 2, (fun _ _ => 1), (fun _ _ => 4), yJx4a65c_iterator_32c93, spOf (MJx4a65c_iterator_32c93 g)), (185, 6, 1, 2, 1, (fun _ _ => 0), (fun _ _ => 0), yJx35411_hasNext_aae02, spOf (MJx35411_hasNext_aae02 g)), (191, 6, 1, 2, 2, (fun _ _ => 0), (fun _ _ => 0), yJx35411_next_0502b, spOf (MJx35411_next_0502b g)), (92, 0, 1, 0, 1, (fun _ _ => 0), (fun _ _ => 0), yX3_one, spOf (MX3_one g)), (174, 2, 1, 3, 1, (fun _ _ => 0), (fun _ _ => 0), yJx4a65c_size_8abf5, spOf (MJx4a65c_size_8abf5 g))], [], [(125, 0)], 0, [], [], g)
theorem eX3_houseNow_0 {g : RO} {Q : Ot → Hw → Prop} {w : Hw} {st : List Value} {k n p : Nat} {l1 l2 l3 l4 : Option Value} : WP (MX3_houseNow g) Q (Prod.mk 0 (Prod.mk (List.cons (Option.some (Value.ref p)) (List.cons l1 (List.cons l2 (List.cons l3 (List.cons l4 List.nil))))) (Prod.mk st (Prod.mk w (Prod.mk k n))))) = go (rd g w p) 7 fun fs => ∃ v, fs[2]? = some v ∧ WP (MX3_houseNow g) Q (Prod.mk 6 (Prod.mk (List.cons (Option.some (Value.ref p)) (List.cons (nl l1) (List.cons (Option.some (Value.int 0)) (List.cons l3 (List.cons l4 List.nil))))) (Prod.mk (List.cons v st) (Prod.mk w (Prod.mk k n))))) := Eq.trans (ic_0 rfl (oy_3 qx_cX3_houseNow_0 0 rfl)) (Eq.trans (isn_e rfl (oy_61 qx_cX3_houseNow_0 1 rfl) rfl rfl) (Eq.trans (alnR_e rfl (oy_42 qx_cX3_houseNow_0 2 rfl) rfl) (get_e rfl (oy_180 qx_cX3_houseNow_0 3 0 16 rfl rfl rfl rfl) rfl)))
theorem eX3_houseNow_6 {g : RO} {Q : Ot → Hw → Prop} {st : List Value} {w : Hw} {k n p : Nat} {l0 l1 l2 l3 l4 : Option Value} : WP (MX3_houseNow g) Q (Prod.mk 6 (Prod.mk (List.cons l0 (List.cons l1 (List.cons l2 (List.cons l3 (List.cons l4 List.nil))))) (Prod.mk (List.cons (Value.ref p) st) (Prod.mk w (Prod.mk k n))))) = (go (rd g w p) 3 (fun _ => True) ∧ wt st ≤ 8 ∧ k + 1 ≤ 2 ∧ n + 4 ≤ 9 ∧ WP (MJx4a65c_iterator_32c93 g) (kx (fun v w' => WP (MX3_houseNow g) Q (Prod.mk 9 (Prod.mk (List.cons l0 (List.cons l1 (List.cons l2 (List.cons l3 (List.cons l4 List.nil))))) (Prod.mk (v.toList ++ st) (Prod.mk w' (Prod.mk (k + 1) (n + 4))))))) (fun E w' => Q (.inr E) w')) (Prod.mk 0 (Prod.mk (List.cons (Option.some (Value.ref p)) List.nil) (Prod.mk List.nil (Prod.mk w (Prod.mk 0 0)))))) := csV0 (M := (MX3_houseNow g)) (mc := (fun _ _ => 1)) (ms := (fun _ _ => 4)) (As := []) (rest := st) (MJx4a65c_iterator_32c93 g) rfl rfl rfl (oy_182 qx_cX3_houseNow_0 6 0 181 rfl rfl rfl rfl) rfl rfl rfl rfl rfl rfl
theorem eX3_houseNow_9 {g : RO} {Q : Ot → Hw → Prop} {st : List Value} {w : Hw} {k n p : Nat} {l0 l1 l2 l3 l4 : Option Value} : WP (MX3_houseNow g) Q (Prod.mk 9 (Prod.mk (List.cons l0 (List.cons l1 (List.cons l2 (List.cons l3 (List.cons l4 List.nil))))) (Prod.mk (List.cons (Value.ref p) st) (Prod.mk w (Prod.mk k n))))) = WP (MX3_houseNow g) Q (Prod.mk 10 (Prod.mk (List.cons l0 (List.cons l1 (List.cons (nl l2) (List.cons (Option.some (Value.ref p)) (List.cons l4 List.nil))))) (Prod.mk st (Prod.mk w (Prod.mk k n))))) := asnR_e rfl (oy_78 qx_cX3_houseNow_0 9 rfl) rfl rfl
theorem eX3_houseNow_10 {g : RO} {Q : Ot → Hw → Prop} {st : List Value} {w : Hw} {k n p : Nat} {l0 l1 l2 l4 : Option Value} : WP (MX3_houseNow g) Q (Prod.mk 10 (Prod.mk (List.cons l0 (List.cons l1 (List.cons l2 (List.cons (Option.some (Value.ref p)) (List.cons l4 List.nil))))) (Prod.mk st (Prod.mk w (Prod.mk k n))))) = WP (MX3_houseNow g) Q (Prod.mk 11 (Prod.mk (List.cons l0 (List.cons l1 (List.cons l2 (List.cons (Option.some (Value.ref p)) (List.cons l4 List.nil))))) (Prod.mk (List.cons (Value.ref p) st) (Prod.mk w (Prod.mk k n))))) := alnR_e rfl (oy_45 qx_cX3_houseNow_0 10 rfl) rfl
theorem eX3_houseNow_11 {g : RO} {Q : Ot → Hw → Prop} {st : List Value} {w : Hw} {k n p : Nat} {l0 l1 l2 l3 l4 : Option Value} : WP (MX3_houseNow g) Q (Prod.mk 11 (Prod.mk (List.cons l0 (List.cons l1 (List.cons l2 (List.cons l3 (List.cons l4 List.nil))))) (Prod.mk (List.cons (Value.ref p) st) (Prod.mk w (Prod.mk k n))))) = (go (rd g w p) 2 (fun _ => True) ∧ wt st ≤ 8 ∧ k + 0 ≤ 2 ∧ n + 0 ≤ 9 ∧ WP (MJx35411_hasNext_aae02 g) (kx (fun v w' => WP (MX3_houseNow g) Q (Prod.mk 16 (Prod.mk (List.cons l0 (List.cons l1 (List.cons l2 (List.cons l3 (List.cons l4 List.nil))))) (Prod.mk (v.toList ++ st) (Prod.mk w' (Prod.mk (k + 0) (n + 0))))))) (fun E w' => Q (.inr E) w')) (Prod.mk 0 (Prod.mk (List.cons (Option.some (Value.ref p)) List.nil) (Prod.mk List.nil (Prod.mk w (Prod.mk 0 0)))))) := csF (M := (MX3_houseNow g)) (mc := (fun _ _ => 0)) (ms := (fun _ _ => 0)) (As := []) (rest := st) (MJx35411_hasNext_aae02 g) rfl rfl dX3_houseNow_11 rfl rfl (Nat.le_of_ble_eq_true rfl) (Nat.le_of_ble_eq_true rfl) rfl
theorem eX3_houseNow_16 {g : RO} {Q : Ot → Hw → Prop} {st : List Value} {w : Hw} {k n : Nat} {a : Int32} {l0 l1 l2 l3 l4 : Option Value} : WP (MX3_houseNow g) Q (Prod.mk 16 (Prod.mk (List.cons l0 (List.cons l1 (List.cons l2 (List.cons l3 (List.cons l4 List.nil))))) (Prod.mk (List.cons (Value.int a) st) (Prod.mk w (Prod.mk k n))))) = if a = 0 then WP (MX3_houseNow g) Q (Prod.mk 49 (Prod.mk (List.cons l0 (List.cons l1 (List.cons l2 (List.cons l3 (List.cons l4 List.nil))))) (Prod.mk st (Prod.mk w (Prod.mk k n))))) else WP (MX3_houseNow g) Q (Prod.mk 19 (Prod.mk (List.cons l0 (List.cons l1 (List.cons l2 (List.cons l3 (List.cons l4 List.nil))))) (Prod.mk st (Prod.mk w (Prod.mk k n))))) := ifc_e (a = 0) rfl (oy_153 qx_cX3_houseNow_0 16 0 33 rfl rfl rfl rfl) rfl (by decide)
theorem eX3_houseNow_19 {g : RO} {Q : Ot → Hw → Prop} {w : Hw} {st : List Value} {k n p : Nat} {l0 l1 l2 l4 : Option Value} : WP (MX3_houseNow g) Q (Prod.mk 19 (Prod.mk (List.cons l0 (List.cons l1 (List.cons l2 (List.cons (Option.some (Value.ref p)) (List.cons l4 List.nil))))) (Prod.mk st (Prod.mk w (Prod.mk k n))))) = (go (rd g w p) 2 (fun _ => True) ∧ wt st ≤ 8 ∧ k + 0 ≤ 2 ∧ n + 0 ≤ 9 ∧ WP (MJx35411_next_0502b g) (kx (fun v w' => WP (MX3_houseNow g) Q (Prod.mk 25 (Prod.mk (List.cons l0 (List.cons l1 (List.cons l2 (List.cons (Option.some (Value.ref p)) (List.cons l4 List.nil))))) (Prod.mk (v.toList ++ st) (Prod.mk w' (Prod.mk (k + 0) (n + 0))))))) (fun E w' => Q (.inr E) w')) (Prod.mk 0 (Prod.mk (List.cons (Option.some (Value.ref p)) (List.cons none (List.cons none List.nil))) (Prod.mk List.nil (Prod.mk w (Prod.mk 0 0)))))) := Eq.trans (alnR_e rfl (oy_45 qx_cX3_houseNow_0 19 rfl) rfl) (csF (M := (MX3_houseNow g)) (mc := (fun _ _ => 0)) (ms := (fun _ _ => 0)) (As := []) (rest := st) (MJx35411_next_0502b g) rfl rfl dX3_houseNow_20 rfl rfl (Nat.le_of_ble_eq_true rfl) (Nat.le_of_ble_eq_true rfl) rfl)
theorem eX3_houseNow_25N {g : RO} {Q : Ot → Hw → Prop} {st : List Value} {w : Hw} {k n : Nat} {l0 l1 l2 l3 l4 : Option Value} : WP (MX3_houseNow g) Q (Prod.mk 25 (Prod.mk (List.cons l0 (List.cons l1 (List.cons l2 (List.cons l3 (List.cons l4 List.nil))))) (Prod.mk (List.cons Value.null st) (Prod.mk w (Prod.mk k n))))) = WP (MX3_houseNow g) Q (Prod.mk 28 (Prod.mk (List.cons l0 (List.cons l1 (List.cons l2 (List.cons l3 (List.cons l4 List.nil))))) (Prod.mk (List.cons Value.null st) (Prod.mk w (Prod.mk k n))))) := castN_e rfl (oy_192 qx_cX3_houseNow_0 25 0 125 rfl rfl rfl rfl)
theorem eX3_houseNow_25R {g : RO} {Q : Ot → Hw → Prop} {st : List Value} {w : Hw} {k n p : Nat} {l0 l1 l2 l3 l4 : Option Value} : WP (MX3_houseNow g) Q (Prod.mk 25 (Prod.mk (List.cons l0 (List.cons l1 (List.cons l2 (List.cons l3 (List.cons l4 List.nil))))) (Prod.mk (List.cons (Value.ref p) st) (Prod.mk w (Prod.mk k n))))) = ((∃ x, w p = Option.some (.inl (0, x))) ∧ WP (MX3_houseNow g) Q (Prod.mk 28 (Prod.mk (List.cons l0 (List.cons l1 (List.cons l2 (List.cons l3 (List.cons l4 List.nil))))) (Prod.mk (List.cons (Value.ref p) st) (Prod.mk w (Prod.mk k n)))))) := castR_e rfl (oy_192 qx_cX3_houseNow_0 25 0 125 rfl rfl rfl rfl) rfl
theorem eX3_houseNow_28 {g : RO} {Q : Ot → Hw → Prop} {st : List Value} {w : Hw} {k n p : Nat} {l0 l1 l2 l3 l4 : Option Value} : WP (MX3_houseNow g) Q (Prod.mk 28 (Prod.mk (List.cons l0 (List.cons l1 (List.cons l2 (List.cons l3 (List.cons l4 List.nil))))) (Prod.mk (List.cons (Value.ref p) st) (Prod.mk w (Prod.mk k n))))) = WP (MX3_houseNow g) Q (Prod.mk 30 (Prod.mk (List.cons l0 (List.cons l1 (List.cons l2 (List.cons (nl l3) (List.cons (Option.some (Value.ref p)) List.nil))))) (Prod.mk st (Prod.mk w (Prod.mk k n))))) := asR_e rfl (oy_58 qx_cX3_houseNow_0 28 4 rfl rfl) rfl rfl
theorem eX3_houseNow_28N {g : RO} {Q : Ot → Hw → Prop} {st : List Value} {w : Hw} {k n : Nat} {l0 l1 l2 l3 l4 : Option Value} : WP (MX3_houseNow g) Q (Prod.mk 28 (Prod.mk (List.cons l0 (List.cons l1 (List.cons l2 (List.cons l3 (List.cons l4 List.nil))))) (Prod.mk (List.cons Value.null st) (Prod.mk w (Prod.mk k n))))) = WP (MX3_houseNow g) Q (Prod.mk 30 (Prod.mk (List.cons l0 (List.cons l1 (List.cons l2 (List.cons (nl l3) (List.cons (Option.some (Value.null)) List.nil))))) (Prod.mk st (Prod.mk w (Prod.mk k n))))) := asN_e rfl (oy_58 qx_cX3_houseNow_0 28 4 rfl rfl) rfl rfl
theorem eX3_houseNow_30 {g : RO} {Q : Ot → Hw → Prop} {st : List Value} {w : Hw} {k n : Nat} {a : Int32} {l0 l1 l3 l4 : Option Value} : WP (MX3_houseNow g) Q (Prod.mk 30 (Prod.mk (List.cons l0 (List.cons l1 (List.cons (Option.some (Value.int a)) (List.cons l3 (List.cons l4 List.nil))))) (Prod.mk st (Prod.mk w (Prod.mk k n))))) = WP (MX3_houseNow g) Q (Prod.mk 31 (Prod.mk (List.cons l0 (List.cons l1 (List.cons (Option.some (Value.int a)) (List.cons l3 (List.cons l4 List.nil))))) (Prod.mk (List.cons (Value.int a) st) (Prod.mk w (Prod.mk k n))))) := iln_e rfl (oy_28 qx_cX3_houseNow_0 30 rfl) rfl
theorem eX3_houseNow_31 {g : RO} {Q : Ot → Hw → Prop} {st : List Value} {w : Hw} {k n p : Nat} {l0 l1 l2 l3 : Option Value} : WP (MX3_houseNow g) Q (Prod.mk 31 (Prod.mk (List.cons l0 (List.cons l1 (List.cons l2 (List.cons l3 (List.cons (Option.some (Value.ref p)) List.nil))))) (Prod.mk st (Prod.mk w (Prod.mk k n))))) = WP (MX3_houseNow g) Q (Prod.mk 33 (Prod.mk (List.cons l0 (List.cons l1 (List.cons l2 (List.cons l3 (List.cons (Option.some (Value.ref p)) List.nil))))) (Prod.mk (List.cons (Value.ref p) st) (Prod.mk w (Prod.mk k n))))) := alR_e rfl (oy_25 qx_cX3_houseNow_0 31 4 rfl rfl) rfl
theorem eX3_houseNow_31N {g : RO} {Q : Ot → Hw → Prop} {st : List Value} {w : Hw} {k n : Nat} {l0 l1 l2 l3 : Option Value} : WP (MX3_houseNow g) Q (Prod.mk 31 (Prod.mk (List.cons l0 (List.cons l1 (List.cons l2 (List.cons l3 (List.cons (Option.some Value.null) List.nil))))) (Prod.mk st (Prod.mk w (Prod.mk k n))))) = WP (MX3_houseNow g) Q (Prod.mk 33 (Prod.mk (List.cons l0 (List.cons l1 (List.cons l2 (List.cons l3 (List.cons (Option.some Value.null) List.nil))))) (Prod.mk (List.cons Value.null st) (Prod.mk w (Prod.mk k n))))) := alN_e rfl (oy_25 qx_cX3_houseNow_0 31 4 rfl rfl) rfl
theorem eX3_houseNow_33R {g : RO} {Q : Ot → Hw → Prop} {st : List Value} {w : Hw} {k n p : Nat} {l0 l1 l2 l3 l4 : Option Value} : WP (MX3_houseNow g) Q (Prod.mk 33 (Prod.mk (List.cons l0 (List.cons l1 (List.cons l2 (List.cons l3 (List.cons l4 List.nil))))) (Prod.mk (List.cons (Value.ref p) st) (Prod.mk w (Prod.mk k n))))) = WP (MX3_houseNow g) Q (Prod.mk 36 (Prod.mk (List.cons l0 (List.cons l1 (List.cons l2 (List.cons l3 (List.cons l4 List.nil))))) (Prod.mk st (Prod.mk w (Prod.mk k n))))) := ifnullR_e rfl (oy_198 qx_cX3_houseNow_1 1 0 7 rfl rfl rfl rfl) (tgt := 40) (by decide)
theorem eX3_houseNow_33N {g : RO} {Q : Ot → Hw → Prop} {st : List Value} {w : Hw} {k n : Nat} {l0 l1 l2 l3 l4 : Option Value} : WP (MX3_houseNow g) Q (Prod.mk 33 (Prod.mk (List.cons l0 (List.cons l1 (List.cons l2 (List.cons l3 (List.cons l4 List.nil))))) (Prod.mk (List.cons Value.null st) (Prod.mk w (Prod.mk k n))))) = WP (MX3_houseNow g) Q (Prod.mk 40 (Prod.mk (List.cons l0 (List.cons l1 (List.cons l2 (List.cons l3 (List.cons l4 List.nil))))) (Prod.mk st (Prod.mk w (Prod.mk k n))))) := ifnullN_e rfl (oy_198 qx_cX3_houseNow_1 1 0 7 rfl rfl rfl rfl) (tgt := 40) (by decide)
theorem eX3_houseNow_36 {g : RO} {Q : Ot → Hw → Prop} {w : Hw} {st : List Value} {k n : Nat} {l0 l1 l2 l3 l4 : Option Value} : WP (MX3_houseNow g) Q (Prod.mk 36 (Prod.mk (List.cons l0 (List.cons l1 (List.cons l2 (List.cons l3 (List.cons l4 List.nil))))) (Prod.mk st (Prod.mk w (Prod.mk k n))))) = WP (MX3_houseNow g) Q (Prod.mk 41 (Prod.mk (List.cons l0 (List.cons l1 (List.cons l2 (List.cons l3 (List.cons l4 List.nil))))) (Prod.mk (List.cons (Value.int 1) st) (Prod.mk w (Prod.mk k n))))) := Eq.trans (ic_1 rfl (oy_4 qx_cX3_houseNow_1 4 rfl)) (goto_e rfl (oy_167 qx_cX3_houseNow_1 5 0 4 rfl rfl rfl rfl) (by decide))
theorem eX3_houseNow_40 {g : RO} {Q : Ot → Hw → Prop} {st : List Value} {w : Hw} {k n : Nat} {l0 l1 l2 l3 l4 : Option Value} : WP (MX3_houseNow g) Q (Prod.mk 40 (Prod.mk (List.cons l0 (List.cons l1 (List.cons l2 (List.cons l3 (List.cons l4 List.nil))))) (Prod.mk st (Prod.mk w (Prod.mk k n))))) = WP (MX3_houseNow g) Q (Prod.mk 41 (Prod.mk (List.cons l0 (List.cons l1 (List.cons l2 (List.cons l3 (List.cons l4 List.nil))))) (Prod.mk (List.cons (Value.int 0) st) (Prod.mk w (Prod.mk k n))))) := ic_0 rfl (oy_3 qx_cX3_houseNow_1 8 rfl)
theorem eX3_houseNow_41 {g : RO} {Q : Ot → Hw → Prop} {st : List Value} {w : Hw} {k n : Nat} {l0 l1 l2 l3 l4 : Option Value} {z0 : Int32} : WP (MX3_houseNow g) Q (Prod.mk 41 (Prod.mk (List.cons l0 (List.cons l1 (List.cons l2 (List.cons l3 (List.cons l4 List.nil))))) (Prod.mk (List.cons (Value.int z0) st) (Prod.mk w (Prod.mk k n))))) = (wt st ≤ 8 ∧ k + 0 ≤ 2 ∧ n + 0 ≤ 9 ∧ WP (MX3_one g) (kx (fun v w' => WP (MX3_houseNow g) Q (Prod.mk 44 (Prod.mk (List.cons l0 (List.cons l1 (List.cons l2 (List.cons l3 (List.cons l4 List.nil))))) (Prod.mk (v.toList ++ st) (Prod.mk w' (Prod.mk (k + 0) (n + 0))))))) (fun E w' => Q (.inr E) w')) (Prod.mk 0 (Prod.mk (List.cons (Option.some (Value.int z0)) List.nil) (Prod.mk List.nil (Prod.mk w (Prod.mk 0 0)))))) := csS0 (M := (MX3_houseNow g)) (mc := (fun _ _ => 0)) (ms := (fun _ _ => 0)) (As := [.int z0]) (rest := st) (MX3_one g) rfl rfl rfl (oy_184 qx_cX3_houseNow_1 9 0 92 rfl rfl rfl rfl) rfl rfl rfl rfl rfl rfl rfl
theorem eX3_houseNow_44 {g : RO} {Q : Ot → Hw → Prop} {w : Hw} {a b : Int32} {st : List Value} {k n : Nat} {l0 l1 l2 l3 l4 : Option Value} : WP (MX3_houseNow g) Q (Prod.mk 44 (Prod.mk (List.cons l0 (List.cons l1 (List.cons l2 (List.cons l3 (List.cons l4 List.nil))))) (Prod.mk (List.cons (Value.int b) (List.cons (Value.int a) st)) (Prod.mk w (Prod.mk k n))))) = WP (MX3_houseNow g) Q (Prod.mk 10 (Prod.mk (List.cons l0 (List.cons (nl l1) (List.cons (Option.some (Value.int (a + b))) (List.cons l3 (List.cons l4 List.nil))))) (Prod.mk st (Prod.mk w (Prod.mk k n))))) := Eq.trans (iadd_e rfl (oy_96 qx_cX3_houseNow_1 12 rfl)) (Eq.trans (isn_e rfl (oy_61 qx_cX3_houseNow_1 13 rfl) rfl rfl) (goto_e rfl (oy_167 qx_cX3_houseNow_1 14 255 220 rfl rfl rfl rfl) (by decide)))
theorem eX3_houseNow_49 {g : RO} {Q : Ot → Hw → Prop} {w : Hw} {st : List Value} {k n : Nat} {l0 l1 l2 l3 l4 : Option Value} : WP (MX3_houseNow g) Q (Prod.mk 49 (Prod.mk (List.cons l0 (List.cons l1 (List.cons l2 (List.cons l3 (List.cons l4 List.nil))))) (Prod.mk st (Prod.mk w (Prod.mk k n))))) = (¬ (5 : Int32) < 0 ∧ (5 : Int32).toNatClampNeg ≤ 40000 ∧ k + 1 ≤ 2 ∧ n + (5 : Int32).toNatClampNeg ≤ 9 ∧ ∀ q : Nat, rd g w q = none → WP (MX3_houseNow g) Q (Prod.mk 52 (Prod.mk (List.cons l0 (List.cons l1 (List.cons l2 (List.cons l3 (List.cons l4 List.nil))))) (Prod.mk (List.cons (Value.ref q) st) (Prod.mk (upw w q (.inl (1, (5 : Int32).toNatClampNeg, .inl fun _ => 0))) (Prod.mk (k + 1) (n + (5 : Int32).toNatClampNeg))))))) := Eq.trans (ic_5 rfl (oy_8 qx_cX3_houseNow_1 17 rfl)) (Eq.trans (WP_at (M := (MX3_houseNow g)) rfl (oy_188_10 qx_cX3_houseNow_1 18 rfl rfl) (Or.inr rfl)) rfl)
theorem eX3_houseNow_52R {g : RO} {Q : Ot → Hw → Prop} {w : Hw} {b : Int32} {st : List Value} {k n p : Nat} {l0 l1 l3 l4 : Option Value} : WP (MX3_houseNow g) Q (Prod.mk 52 (Prod.mk (List.cons l0 (List.cons l1 (List.cons (Option.some (Value.int b)) (List.cons l3 (List.cons l4 List.nil))))) (Prod.mk (List.cons (Value.ref p) st) (Prod.mk w (Prod.mk k n))))) = gi (w p) 1 fun N f => vp_in (0 : Int32) N ∧ WP (MX3_houseNow g) Q (Prod.mk 56 (Prod.mk (List.cons l0 (List.cons l1 (List.cons (Option.some (Value.int b)) (List.cons l3 (List.cons l4 List.nil))))) (Prod.mk (List.cons (Value.ref p) st) (Prod.mk (upw w p (.inl (1, N, .inl (upd f (0 : Int32).toNatClampNeg b)))) (Prod.mk k n))))) := Eq.trans (dupR_e rfl (oy_89 qx_cX3_houseNow_1 20 rfl)) (Eq.trans (ic_0 rfl (oy_3 qx_cX3_houseNow_1 21 rfl)) (Eq.trans (iln_e rfl (oy_28 qx_cX3_houseNow_1 22 rfl) rfl) (Eq.trans (WP_at (M := (MX3_houseNow g)) rfl (oy_79 qx_cX3_houseNow_1 23 rfl) (Or.inr rfl)) rfl)))
theorem eX3_houseNow_56R {g : RO} {Q : Ot → Hw → Prop} {w : Hw} {st : List Value} {k n p px1 : Nat} {l1 l2 l3 l4 : Option Value} : WP (MX3_houseNow g) Q (Prod.mk 56 (Prod.mk (List.cons (Option.some (Value.ref px1)) (List.cons l1 (List.cons l2 (List.cons l3 (List.cons l4 List.nil))))) (Prod.mk (List.cons (Value.ref p) st) (Prod.mk w (Prod.mk k n))))) = go (rd g w px1) 7 fun fs => ∃ v, fs[3]? = some v ∧ WP (MX3_houseNow g) Q (Prod.mk 62 (Prod.mk (List.cons (Option.some (Value.ref px1)) (List.cons l1 (List.cons l2 (List.cons l3 (List.cons l4 List.nil))))) (Prod.mk (List.cons v (List.cons (Value.int 1) (List.cons (Value.ref p) (List.cons (Value.ref p) st)))) (Prod.mk w (Prod.mk k n))))) := Eq.trans (dupR_e rfl (oy_89 qx_cX3_houseNow_1 24 rfl)) (Eq.trans (ic_1 rfl (oy_4 qx_cX3_houseNow_1 25 rfl)) (Eq.trans (alnR_e rfl (oy_42 qx_cX3_houseNow_1 26 rfl) rfl) (get_e rfl (oy_180 qx_cX3_houseNow_1 27 0 20 rfl rfl rfl rfl) rfl)))
theorem eX3_houseNow_62 {g : RO} {Q : Ot → Hw → Prop} {st : List Value} {w : Hw} {k n p : Nat} {l0 l1 l2 l3 l4 : Option Value} : WP (MX3_houseNow g) Q (Prod.mk 62 (Prod.mk (List.cons l0 (List.cons l1 (List.cons l2 (List.cons l3 (List.cons l4 List.nil))))) (Prod.mk (List.cons (Value.ref p) st) (Prod.mk w (Prod.mk k n))))) = (go (rd g w p) 3 (fun _ => True) ∧ wt st ≤ 8 ∧ k + 0 ≤ 2 ∧ n + 0 ≤ 9 ∧ WP (MJx4a65c_size_8abf5 g) (kx (fun v w' => WP (MX3_houseNow g) Q (Prod.mk 65 (Prod.mk (List.cons l0 (List.cons l1 (List.cons l2 (List.cons l3 (List.cons l4 List.nil))))) (Prod.mk (v.toList ++ st) (Prod.mk w' (Prod.mk (k + 0) (n + 0))))))) (fun E w' => Q (.inr E) w')) (Prod.mk 0 (Prod.mk (List.cons (Option.some (Value.ref p)) List.nil) (Prod.mk List.nil (Prod.mk w (Prod.mk 0 0)))))) := csV0 (M := (MX3_houseNow g)) (mc := (fun _ _ => 0)) (ms := (fun _ _ => 0)) (As := []) (rest := st) (MJx4a65c_size_8abf5 g) rfl rfl rfl (oy_182 qx_cX3_houseNow_1 30 0 174 rfl rfl rfl rfl) rfl rfl rfl rfl rfl rfl
theorem eX3_houseNow_65 {g : RO} {Q : Ot → Hw → Prop} {st : List Value} {w : Hw} {k n p : Nat} {a b : Int32} {l0 l1 l2 l3 l4 : Option Value} : WP (MX3_houseNow g) Q (Prod.mk 65 (Prod.mk (List.cons l0 (List.cons l1 (List.cons l2 (List.cons l3 (List.cons l4 List.nil))))) (Prod.mk (List.cons (Value.int b) (List.cons (Value.int a) (List.cons (Value.ref p) st))) (Prod.mk w (Prod.mk k n))))) = gi (w p) 1 fun N f => vp_in a N ∧ WP (MX3_houseNow g) Q (Prod.mk 66 (Prod.mk (List.cons l0 (List.cons l1 (List.cons l2 (List.cons l3 (List.cons l4 List.nil))))) (Prod.mk st (Prod.mk (upw w p (.inl (1, N, .inl (upd f a.toNatClampNeg b)))) (Prod.mk k n))))) := Eq.trans (WP_at (M := (MX3_houseNow g)) rfl (oy_79 qx_cX3_houseNow_2 1 rfl) (Or.inr rfl)) rfl
theorem eX3_houseNow_66R {g : RO} {Q : Ot → Hw → Prop} {w : Hw} {st : List Value} {k n p px1 : Nat} {l1 l2 l3 l4 : Option Value} : WP (MX3_houseNow g) Q (Prod.mk 66 (Prod.mk (List.cons (Option.some (Value.ref px1)) (List.cons l1 (List.cons l2 (List.cons l3 (List.cons l4 List.nil))))) (Prod.mk (List.cons (Value.ref p) st) (Prod.mk w (Prod.mk k n))))) = go (rd g w px1) 7 fun fs => ∃ v, fs[4]? = some v ∧ WP (MX3_houseNow g) Q (Prod.mk 72 (Prod.mk (List.cons (Option.some (Value.ref px1)) (List.cons l1 (List.cons l2 (List.cons l3 (List.cons l4 List.nil))))) (Prod.mk (List.cons v (List.cons (Value.int 2) (List.cons (Value.ref p) (List.cons (Value.ref p) st)))) (Prod.mk w (Prod.mk k n))))) := Eq.trans (dupR_e rfl (oy_89 qx_cX3_houseNow_2 2 rfl)) (Eq.trans (ic_2 rfl (oy_5 qx_cX3_houseNow_2 3 rfl)) (Eq.trans (alnR_e rfl (oy_42 qx_cX3_houseNow_2 4 rfl) rfl) (get_e rfl (oy_180 qx_cX3_houseNow_2 5 0 35 rfl rfl rfl rfl) rfl)))
theorem eX3_houseNow_72 {g : RO} {Q : Ot → Hw → Prop} {st : List Value} {w : Hw} {k n p : Nat} {a b : Int32} {l0 l1 l2 l3 l4 : Option Value} : WP (MX3_houseNow g) Q (Prod.mk 72 (Prod.mk (List.cons l0 (List.cons l1 (List.cons l2 (List.cons l3 (List.cons l4 List.nil))))) (Prod.mk (List.cons (Value.int b) (List.cons (Value.int a) (List.cons (Value.ref p) st))) (Prod.mk w (Prod.mk k n))))) = gi (w p) 1 fun N f => vp_in a N ∧ WP (MX3_houseNow g) Q (Prod.mk 73 (Prod.mk (List.cons l0 (List.cons l1 (List.cons l2 (List.cons l3 (List.cons l4 List.nil))))) (Prod.mk st (Prod.mk (upw w p (.inl (1, N, .inl (upd f a.toNatClampNeg b)))) (Prod.mk k n))))) := Eq.trans (WP_at (M := (MX3_houseNow g)) rfl (oy_79 qx_cX3_houseNow_2 8 rfl) (Or.inr rfl)) rfl
theorem eX3_houseNow_73R {g : RO} {Q : Ot → Hw → Prop} {w : Hw} {st : List Value} {k n p px1 : Nat} {l1 l2 l3 l4 : Option Value} : WP (MX3_houseNow g) Q (Prod.mk 73 (Prod.mk (List.cons (Option.some (Value.ref px1)) (List.cons l1 (List.cons l2 (List.cons l3 (List.cons l4 List.nil))))) (Prod.mk (List.cons (Value.ref p) st) (Prod.mk w (Prod.mk k n))))) = go (rd g w px1) 7 fun fs => ∃ v, fs[5]? = some v ∧ WP (MX3_houseNow g) Q (Prod.mk 79 (Prod.mk (List.cons (Option.some (Value.ref px1)) (List.cons l1 (List.cons l2 (List.cons l3 (List.cons l4 List.nil))))) (Prod.mk (List.cons v (List.cons (Value.int 3) (List.cons (Value.ref p) (List.cons (Value.ref p) st)))) (Prod.mk w (Prod.mk k n))))) := Eq.trans (dupR_e rfl (oy_89 qx_cX3_houseNow_2 9 rfl)) (Eq.trans (ic_3 rfl (oy_6 qx_cX3_houseNow_2 10 rfl)) (Eq.trans (alnR_e rfl (oy_42 qx_cX3_houseNow_2 11 rfl) rfl) (get_e rfl (oy_180 qx_cX3_houseNow_2 12 0 210 rfl rfl rfl rfl) rfl)))
theorem eX3_houseNow_79 {g : RO} {Q : Ot → Hw → Prop} {st : List Value} {w : Hw} {k n p : Nat} {a b : Int32} {l0 l1 l2 l3 l4 : Option Value} : WP (MX3_houseNow g) Q (Prod.mk 79 (Prod.mk (List.cons l0 (List.cons l1 (List.cons l2 (List.cons l3 (List.cons l4 List.nil))))) (Prod.mk (List.cons (Value.int b) (List.cons (Value.int a) (List.cons (Value.ref p) st))) (Prod.mk w (Prod.mk k n))))) = gi (w p) 1 fun N f => vp_in a N ∧ WP (MX3_houseNow g) Q (Prod.mk 80 (Prod.mk (List.cons l0 (List.cons l1 (List.cons l2 (List.cons l3 (List.cons l4 List.nil))))) (Prod.mk st (Prod.mk (upw w p (.inl (1, N, .inl (upd f a.toNatClampNeg b)))) (Prod.mk k n))))) := Eq.trans (WP_at (M := (MX3_houseNow g)) rfl (oy_79 qx_cX3_houseNow_2 15 rfl) (Or.inr rfl)) rfl
theorem eX3_houseNow_80R {g : RO} {Q : Ot → Hw → Prop} {w : Hw} {st : List Value} {k n p px1 : Nat} {l1 l2 l3 l4 : Option Value} : WP (MX3_houseNow g) Q (Prod.mk 80 (Prod.mk (List.cons (Option.some (Value.ref px1)) (List.cons l1 (List.cons l2 (List.cons l3 (List.cons l4 List.nil))))) (Prod.mk (List.cons (Value.ref p) st) (Prod.mk w (Prod.mk k n))))) = go (rd g w px1) 7 fun fs => ∃ v, fs[6]? = some v ∧ WP (MX3_houseNow g) Q (Prod.mk 86 (Prod.mk (List.cons (Option.some (Value.ref px1)) (List.cons l1 (List.cons l2 (List.cons l3 (List.cons l4 List.nil))))) (Prod.mk (List.cons v (List.cons (Value.int 4) (List.cons (Value.ref p) (List.cons (Value.ref p) st)))) (Prod.mk w (Prod.mk k n))))) := Eq.trans (dupR_e rfl (oy_89 qx_cX3_houseNow_2 16 rfl)) (Eq.trans (ic_4 rfl (oy_7 qx_cX3_houseNow_2 17 rfl)) (Eq.trans (alnR_e rfl (oy_42 qx_cX3_houseNow_2 18 rfl) rfl) (get_e rfl (oy_180 qx_cX3_houseNow_2 19 0 108 rfl rfl rfl rfl) rfl)))
theorem eX3_houseNow_86 {g : RO} {Q : Ot → Hw → Prop} {st : List Value} {w : Hw} {k n p : Nat} {a b : Int32} {l0 l1 l2 l3 l4 : Option Value} : WP (MX3_houseNow g) Q (Prod.mk 86 (Prod.mk (List.cons l0 (List.cons l1 (List.cons l2 (List.cons l3 (List.cons l4 List.nil))))) (Prod.mk (List.cons (Value.int b) (List.cons (Value.int a) (List.cons (Value.ref p) st))) (Prod.mk w (Prod.mk k n))))) = gi (w p) 1 fun N f => vp_in a N ∧ WP (MX3_houseNow g) Q (Prod.mk 87 (Prod.mk (List.cons l0 (List.cons l1 (List.cons l2 (List.cons l3 (List.cons l4 List.nil))))) (Prod.mk st (Prod.mk (upw w p (.inl (1, N, .inl (upd f a.toNatClampNeg b)))) (Prod.mk k n))))) := Eq.trans (WP_at (M := (MX3_houseNow g)) rfl (oy_79 qx_cX3_houseNow_2 22 rfl) (Or.inr rfl)) rfl
theorem eX3_houseNow_87 {g : RO} {Q : Ot → Hw → Prop} {w : Hw} {a : Int32} {st : List Value} {k n p : Nat} {l0 l2 l3 l4 : Option Value} : WP (MX3_houseNow g) Q (Prod.mk 87 (Prod.mk (List.cons l0 (List.cons (Option.some (Value.int a)) (List.cons l2 (List.cons l3 (List.cons l4 List.nil))))) (Prod.mk (List.cons (Value.ref p) st) (Prod.mk w (Prod.mk k n))))) = gi (rd g w p) 1 fun N f => vp_in a N ∧ WP (MX3_houseNow g) Q (Prod.mk 91 (Prod.mk (List.cons l0 (List.cons (Option.some (Value.int a)) (List.cons (nl l2) (List.cons (Option.some (Value.ref p)) (List.cons l4 List.nil))))) (Prod.mk (List.cons (Value.int (f a.toNatClampNeg)) st) (Prod.mk w (Prod.mk k n))))) := Eq.trans (asnR_e rfl (oy_78 qx_cX3_houseNow_2 23 rfl) rfl rfl) (Eq.trans (alnR_e rfl (oy_45 qx_cX3_houseNow_2 24 rfl) rfl) (Eq.trans (iln_e rfl (oy_27 qx_cX3_houseNow_2 25 rfl) rfl) (iaload_e rfl (oy_46 qx_cX3_houseNow_2 26 rfl))))
set_option maxRecDepth 20000 in
theorem eX3_houseNow_91 {g : RO} {Q : Ot → Hw → Prop} {w : Hw} {k n : Nat} {a : Int32} {l0 l1 l2 l3 l4 : Option Value} : WP (MX3_houseNow g) Q (Prod.mk 91 (Prod.mk (List.cons l0 (List.cons l1 (List.cons l2 (List.cons l3 (List.cons l4 List.nil))))) (Prod.mk (List.cons (Value.int a) List.nil) (Prod.mk w (Prod.mk k n))))) = (k ≤ 2 ∧ n ≤ 9 ∧ Q (.inl (Option.some (Value.int a))) w) := iretI_e rfl (oy_172 qx_cX3_houseNow_2 27 rfl) rfl
theorem wk_1197 : (.fieldLink RX3 210 "RangecardModel" "knocked" "I" : Jvm.Cond) ∈ WS := WS_t5 179 (by eq_refl) (by eq_refl)
theorem vF_RX3_210 : vFld RX3 210 7 5 := ⟨RX3, TX3, 7, tyX3, "RangecardModel", rfl, by decide, iW_7, tyX3_ok, nmX3, Or.inl rfl, Or.inl wk_1197⟩
theorem vMX3_houseNow {l : Launch} (hl : l.stackTraces = false) (G : GT) : vM l G (MX3_houseNow (gg G)) := vM_k RX3 cX3_houseNow rfl rfl (all_c (vF_RX3_16) (all_c (vF_RX3_20) (all_c (vF_RX3_35) (all_c (vF_RX3_210) (all_c (vF_RX3_108) (all_n)))))) all_n all_n all_n all_n (fun h => absurd rfl h) (all_c (kc_70 hl wk_1540) (all_c (⟨cJx35411_hasNext_aae02, 1, some .boolean, fun y hy => by subst hy; exact ⟨Nat.le_of_ble_eq_true rfl, ⟨_, wk_1572, okJx35411_hasNext_aae02 hl, Or.inl ⟨Nat.ne_of_beq_eq_false rfl, rfl⟩⟩, wk_87, nc8, ⟨(⟨"java/util/Iterator", "hasNext", "()Z"⟩ : MethodName), (by decide +kernel : (parseMethodDescriptor (⟨"java/util/Iterator", "hasNext", "()Z"⟩ : MethodName).desc).map (fun d => d.parameters.length + 1) = some 1), wk_1564, wk_1570, (RJx35411, TJx35411, 4), rfl, wk_1568, (by decide : (RJx35411, (⟨"java/util/Iterator", "hasNext", "()Z"⟩ : MethodName), yJx35411_hasNext_aae02) ∈ IFL)⟩⟩⟩) (all_c (⟨cJx35411_next_0502b, 3, some (.object "java/lang/Object"), fun y hy => by subst hy; exact ⟨Nat.le_of_ble_eq_true rfl, ⟨_, wk_1581, okJx35411_next_0502b hl, Or.inl ⟨Nat.ne_of_beq_eq_false rfl, rfl⟩⟩, wk_87, nc8, ⟨(⟨"java/util/Iterator", "next", "()Ljava/lang/Object;"⟩ : MethodName), (by decide +kernel : (parseMethodDescriptor (⟨"java/util/Iterator", "next", "()Ljava/lang/Object;"⟩ : MethodName).desc).map (fun d => d.parameters.length + 1) = some 1), wk_1574, wk_1579, (RJx35411, TJx35411, 4), rfl, wk_1577, (by decide : (RJx35411, (⟨"java/util/Iterator", "next", "()Ljava/lang/Object;"⟩ : MethodName), yJx35411_next_0502b) ∈ IFL)⟩⟩⟩) (all_c (kc_47 hl wk_1311) (all_c (kc_68 hl wk_1520) (all_n)))))) all_n (all_c (⟨.long, rfl, (fun C h => by cases h), wk_1380⟩) (all_n)) (fun h => absurd rfl h) rfl all_n
theorem okX3_houseNow {l : Launch} (hl : l.stackTraces = false) {G : GT} : ∀ (args : List Value) (w : Hw) (S : Ot → Hw → Prop), spOf (MX3_houseNow (gg G)) args w S → CX l G yX3_houseNow (.code yX3_houseNow cX3_houseNow 5 (some .int)) 3 2 9 args w S := CX_sp (M := MX3_houseNow (gg G)) (y := yX3_houseNow) hl pn15 rfl (vMX3_houseNow hl G) (fun h => by cases h) rfl
theorem qx_cX3_house_0 : ((cX3_house.data.toList.drop 0).take 38).map UInt8.toNat = [42, 27, 3, 7, 184, 0, 38, 154, 0, 7, 4, 167, 0, 4, 3, 4, 182, 0, 54, 153, 0, 7, 3, 167, 0, 8, 42, 27, 182, 0, 213, 172] := by decide +kernel
noncomputable def MX3_house (g : RO) : MT := ((RX3, cX3_house, 2, 4, 2, 9, false, some .int), [], [], [], [], [], 0, [(38, 0, 3, 0, 1, (fun _ _ => 0), (fun _ _ => 0), yX3_isIn, spOf (MX3_isIn g)), (54, 2, 3, 7, 2, (fun _ _ => 0), (fun _ _ => 0), yX3_start, spOf (MX3_start g)), (213, 2, 2, 7, 3, (fun _ _ => 2), (fun _ _ => 9), yX3_houseNow, spOf (MX3_houseNow g))], [], [], 0, [], [], g)
theorem eX3_house_0 {g : RO} {Q : Ot → Hw → Prop} {st : List Value} {w : Hw} {k n p : Nat} {l1 : Option Value} : WP (MX3_house g) Q (Prod.mk 0 (Prod.mk (List.cons (Option.some (Value.ref p)) (List.cons l1 List.nil)) (Prod.mk st (Prod.mk w (Prod.mk k n))))) = WP (MX3_house g) Q (Prod.mk 1 (Prod.mk (List.cons (Option.some (Value.ref p)) (List.cons l1 List.nil)) (Prod.mk (List.cons (Value.ref p) st) (Prod.mk w (Prod.mk k n))))) := alnR_e rfl (oy_42 qx_cX3_house_0 0 rfl) rfl
theorem eX3_house_0N {g : RO} {Q : Ot → Hw → Prop} {st : List Value} {w : Hw} {k n : Nat} {l1 : Option Value} : WP (MX3_house g) Q (Prod.mk 0 (Prod.mk (List.cons (Option.some Value.null) (List.cons l1 List.nil)) (Prod.mk st (Prod.mk w (Prod.mk k n))))) = WP (MX3_house g) Q (Prod.mk 1 (Prod.mk (List.cons (Option.some Value.null) (List.cons l1 List.nil)) (Prod.mk (List.cons Value.null st) (Prod.mk w (Prod.mk k n))))) := alnN_e rfl (oy_42 qx_cX3_house_0 0 rfl) rfl
theorem eX3_house_1 {g : RO} {Q : Ot → Hw → Prop} {w : Hw} {z0 : Int32} {st : List Value} {k n : Nat} {l0 : Option Value} : WP (MX3_house g) Q (Prod.mk 1 (Prod.mk (List.cons l0 (List.cons (Option.some (Value.int z0)) List.nil)) (Prod.mk st (Prod.mk w (Prod.mk k n))))) = (wt st ≤ 8 ∧ k + 0 ≤ 2 ∧ n + 0 ≤ 9 ∧ WP (MX3_isIn g) (kx (fun v w' => WP (MX3_house g) Q (Prod.mk 7 (Prod.mk (List.cons l0 (List.cons (Option.some (Value.int z0)) List.nil)) (Prod.mk (v.toList ++ st) (Prod.mk w' (Prod.mk (k + 0) (n + 0))))))) (fun E w' => Q (.inr E) w')) (Prod.mk 0 (Prod.mk (List.cons (Option.some (Value.int z0)) (List.cons (Option.some (Value.int (0 : Int32))) (List.cons (Option.some (Value.int (4 : Int32))) List.nil))) (Prod.mk List.nil (Prod.mk w (Prod.mk 0 0)))))) := Eq.trans (iln_e rfl (oy_27 qx_cX3_house_0 1 rfl) rfl) (Eq.trans (ic_0 rfl (oy_3 qx_cX3_house_0 2 rfl)) (Eq.trans (ic_4 rfl (oy_7 qx_cX3_house_0 3 rfl)) (csS0 (M := (MX3_house g)) (mc := (fun _ _ => 0)) (ms := (fun _ _ => 0)) (As := [.int z0, .int (0 : Int32), .int (4 : Int32)]) (rest := st) (MX3_isIn g) rfl rfl rfl (oy_184 qx_cX3_house_0 4 0 38 rfl rfl rfl rfl) rfl rfl rfl rfl rfl rfl rfl)))
theorem eX3_house_7 {g : RO} {Q : Ot → Hw → Prop} {st : List Value} {w : Hw} {k n : Nat} {a : Int32} {l0 l1 : Option Value} : WP (MX3_house g) Q (Prod.mk 7 (Prod.mk (List.cons l0 (List.cons l1 List.nil)) (Prod.mk (List.cons (Value.int a) st) (Prod.mk w (Prod.mk k n))))) = if a = 0 then WP (MX3_house g) Q (Prod.mk 10 (Prod.mk (List.cons l0 (List.cons l1 List.nil)) (Prod.mk st (Prod.mk w (Prod.mk k n))))) else WP (MX3_house g) Q (Prod.mk 14 (Prod.mk (List.cons l0 (List.cons l1 List.nil)) (Prod.mk st (Prod.mk w (Prod.mk k n))))) := ifcn_e (a = 0) rfl (oy_154 qx_cX3_house_0 7 0 7 rfl rfl rfl rfl) rfl (by decide)
theorem eX3_house_10 {g : RO} {Q : Ot → Hw → Prop} {w : Hw} {st : List Value} {k n : Nat} {l0 l1 : Option Value} : WP (MX3_house g) Q (Prod.mk 10 (Prod.mk (List.cons l0 (List.cons l1 List.nil)) (Prod.mk st (Prod.mk w (Prod.mk k n))))) = WP (MX3_house g) Q (Prod.mk 15 (Prod.mk (List.cons l0 (List.cons l1 List.nil)) (Prod.mk (List.cons (Value.int 1) st) (Prod.mk w (Prod.mk k n))))) := Eq.trans (ic_1 rfl (oy_4 qx_cX3_house_0 10 rfl)) (goto_e rfl (oy_167 qx_cX3_house_0 11 0 4 rfl rfl rfl rfl) (by decide))
theorem eX3_house_14 {g : RO} {Q : Ot → Hw → Prop} {st : List Value} {w : Hw} {k n : Nat} {l0 l1 : Option Value} : WP (MX3_house g) Q (Prod.mk 14 (Prod.mk (List.cons l0 (List.cons l1 List.nil)) (Prod.mk st (Prod.mk w (Prod.mk k n))))) = WP (MX3_house g) Q (Prod.mk 15 (Prod.mk (List.cons l0 (List.cons l1 List.nil)) (Prod.mk (List.cons (Value.int 0) st) (Prod.mk w (Prod.mk k n))))) := ic_0 rfl (oy_3 qx_cX3_house_0 14 rfl)
theorem eX3_house_15 {g : RO} {Q : Ot → Hw → Prop} {w : Hw} {z0 : Int32} {st : List Value} {k n p : Nat} {l0 l1 : Option Value} : WP (MX3_house g) Q (Prod.mk 15 (Prod.mk (List.cons l0 (List.cons l1 List.nil)) (Prod.mk (List.cons (Value.int z0) (List.cons (Value.ref p) st)) (Prod.mk w (Prod.mk k n))))) = (go (rd g w p) 7 (fun _ => True) ∧ wt st ≤ 8 ∧ k + 0 ≤ 2 ∧ n + 0 ≤ 9 ∧ WP (MX3_start g) (kx (fun v w' => WP (MX3_house g) Q (Prod.mk 19 (Prod.mk (List.cons l0 (List.cons l1 List.nil)) (Prod.mk (v.toList ++ st) (Prod.mk w' (Prod.mk (k + 0) (n + 0))))))) (fun E w' => Q (.inr E) w')) (Prod.mk 0 (Prod.mk (List.cons (Option.some (Value.ref p)) (List.cons (Option.some (Value.int z0)) (List.cons (Option.some (Value.int (1 : Int32))) List.nil))) (Prod.mk List.nil (Prod.mk w (Prod.mk 0 0)))))) := Eq.trans (ic_1 rfl (oy_4 qx_cX3_house_0 15 rfl)) (csV0 (M := (MX3_house g)) (mc := (fun _ _ => 0)) (ms := (fun _ _ => 0)) (As := [.int z0, .int (1 : Int32)]) (rest := st) (MX3_start g) rfl rfl rfl (oy_182 qx_cX3_house_0 16 0 54 rfl rfl rfl rfl) rfl rfl rfl rfl rfl rfl)
theorem eX3_house_19 {g : RO} {Q : Ot → Hw → Prop} {st : List Value} {w : Hw} {k n : Nat} {a : Int32} {l0 l1 : Option Value} : WP (MX3_house g) Q (Prod.mk 19 (Prod.mk (List.cons l0 (List.cons l1 List.nil)) (Prod.mk (List.cons (Value.int a) st) (Prod.mk w (Prod.mk k n))))) = if a = 0 then WP (MX3_house g) Q (Prod.mk 26 (Prod.mk (List.cons l0 (List.cons l1 List.nil)) (Prod.mk st (Prod.mk w (Prod.mk k n))))) else WP (MX3_house g) Q (Prod.mk 22 (Prod.mk (List.cons l0 (List.cons l1 List.nil)) (Prod.mk st (Prod.mk w (Prod.mk k n))))) := ifc_e (a = 0) rfl (oy_153 qx_cX3_house_0 19 0 7 rfl rfl rfl rfl) rfl (by decide)
theorem eX3_house_22 {g : RO} {Q : Ot → Hw → Prop} {w : Hw} {st : List Value} {k n : Nat} {l0 l1 : Option Value} : WP (MX3_house g) Q (Prod.mk 22 (Prod.mk (List.cons l0 (List.cons l1 List.nil)) (Prod.mk st (Prod.mk w (Prod.mk k n))))) = WP (MX3_house g) Q (Prod.mk 31 (Prod.mk (List.cons l0 (List.cons l1 List.nil)) (Prod.mk (List.cons (Value.int 0) st) (Prod.mk w (Prod.mk k n))))) := Eq.trans (ic_0 rfl (oy_3 qx_cX3_house_0 22 rfl)) (goto_e rfl (oy_167 qx_cX3_house_0 23 0 8 rfl rfl rfl rfl) (by decide))
theorem eX3_house_26 {g : RO} {Q : Ot → Hw → Prop} {st : List Value} {w : Hw} {k n p : Nat} {l1 : Option Value} : WP (MX3_house g) Q (Prod.mk 26 (Prod.mk (List.cons (Option.some (Value.ref p)) (List.cons l1 List.nil)) (Prod.mk st (Prod.mk w (Prod.mk k n))))) = WP (MX3_house g) Q (Prod.mk 27 (Prod.mk (List.cons (Option.some (Value.ref p)) (List.cons l1 List.nil)) (Prod.mk (List.cons (Value.ref p) st) (Prod.mk w (Prod.mk k n))))) := alnR_e rfl (oy_42 qx_cX3_house_0 26 rfl) rfl
theorem eX3_house_26N {g : RO} {Q : Ot → Hw → Prop} {st : List Value} {w : Hw} {k n : Nat} {l1 : Option Value} : WP (MX3_house g) Q (Prod.mk 26 (Prod.mk (List.cons (Option.some Value.null) (List.cons l1 List.nil)) (Prod.mk st (Prod.mk w (Prod.mk k n))))) = WP (MX3_house g) Q (Prod.mk 27 (Prod.mk (List.cons (Option.some Value.null) (List.cons l1 List.nil)) (Prod.mk (List.cons Value.null st) (Prod.mk w (Prod.mk k n))))) := alnN_e rfl (oy_42 qx_cX3_house_0 26 rfl) rfl
theorem eX3_house_27 {g : RO} {Q : Ot → Hw → Prop} {w : Hw} {z0 : Int32} {st : List Value} {k n p : Nat} {l0 : Option Value} : WP (MX3_house g) Q (Prod.mk 27 (Prod.mk (List.cons l0 (List.cons (Option.some (Value.int z0)) List.nil)) (Prod.mk (List.cons (Value.ref p) st) (Prod.mk w (Prod.mk k n))))) = (go (rd g w p) 7 (fun _ => True) ∧ wt st ≤ 8 ∧ k + 2 ≤ 2 ∧ n + 9 ≤ 9 ∧ WP (MX3_houseNow g) (kx (fun v w' => WP (MX3_house g) Q (Prod.mk 31 (Prod.mk (List.cons l0 (List.cons (Option.some (Value.int z0)) List.nil)) (Prod.mk (v.toList ++ st) (Prod.mk w' (Prod.mk (k + 2) (n + 9))))))) (fun E w' => Q (.inr E) w')) (Prod.mk 0 (Prod.mk (List.cons (Option.some (Value.ref p)) (List.cons (Option.some (Value.int z0)) (List.cons none (List.cons none (List.cons none List.nil))))) (Prod.mk List.nil (Prod.mk w (Prod.mk 0 0)))))) := Eq.trans (iln_e rfl (oy_27 qx_cX3_house_0 27 rfl) rfl) (csV0 (M := (MX3_house g)) (mc := (fun _ _ => 2)) (ms := (fun _ _ => 9)) (As := [.int z0]) (rest := st) (MX3_houseNow g) rfl rfl rfl (oy_182 qx_cX3_house_0 28 0 213 rfl rfl rfl rfl) rfl rfl rfl rfl rfl rfl)
theorem eX3_house_31 {g : RO} {Q : Ot → Hw → Prop} {w : Hw} {k n : Nat} {a : Int32} {l0 l1 : Option Value} : WP (MX3_house g) Q (Prod.mk 31 (Prod.mk (List.cons l0 (List.cons l1 List.nil)) (Prod.mk (List.cons (Value.int a) List.nil) (Prod.mk w (Prod.mk k n))))) = (k ≤ 2 ∧ n ≤ 9 ∧ Q (.inl (Option.some (Value.int a))) w) := iretI_e rfl (oy_172 qx_cX3_house_0 31 rfl) rfl
theorem wk_1652 : (.code yX3_houseNow cX3_houseNow 5 (some .int) : Jvm.Cond) ∈ WS := WS_t7 154 (by eq_refl) (by eq_refl)
theorem wk_1649 : (.methodLink RX3 213 yX3_houseNow : Jvm.Cond) ∈ WS := WS_t7 151 (by eq_refl) (by eq_refl)
theorem wk_1651 : (.instanceMethod yX3_houseNow : Jvm.Cond) ∈ WS := WS_t7 153 (by eq_refl) (by eq_refl)
theorem wk_57 : (.selects RX3 yX3_houseNow yX3_houseNow : Jvm.Cond) ∈ WS := WS_at 57 (by decide +kernel) rfl
theorem kc_76 {l : Launch} (hl : l.stackTraces = false) {G : GT} {own : String} {i : Nat} (hw : Jvm.Cond.methodLink own i yX3_houseNow ∈ WS) : vCal l G own i (2, 2, 7, 3, (fun _ _ => 2), (fun _ _ => 9), yX3_houseNow, spOf (MX3_houseNow (gg G))) := ⟨cX3_houseNow, 5, some .int, fun y hy => by subst hy; exact ⟨Nat.le_of_ble_eq_true rfl, ⟨_, wk_1652, okX3_houseNow hl, Or.inl ⟨Nat.ne_of_beq_eq_false rfl, rfl⟩⟩, wk_60, nc13, ⟨pd46, hw, wk_1651, wk_57, (RX3, TX3, 7), rfl, rfl⟩⟩⟩
theorem vMX3_house {l : Launch} (hl : l.stackTraces = false) (G : GT) : vM l G (MX3_house (gg G)) := vM_k RX3 cX3_house rfl rfl all_n all_n all_n all_n all_n (fun h => absurd rfl h) (all_c (kc_36 hl wk_1225) (all_c (kc_39 hl wk_1228) (all_c (kc_76 hl wk_1649) (all_n)))) all_n all_n (fun h => absurd rfl h) rfl all_n
theorem okX3_house {l : Launch} (hl : l.stackTraces = false) {G : GT} : ∀ (args : List Value) (w : Hw) (S : Ot → Hw → Prop), spOf (MX3_house (gg G)) args w S → CX l G yX3_house (.code yX3_house cX3_house 2 (some .int)) 4 2 9 args w S := CX_sp (M := MX3_house (gg G)) (y := yX3_house) hl pn15 rfl (vMX3_house hl G) (fun h => by cases h) rfl
theorem qx_cX3_knock_0 : ((cX3_knock.data.toList.drop 0).take 38).map UInt8.toNat = [42, 3, 181, 0, 27, 42, 89, 180, 0, 210, 4, 96, 181, 0, 210, 42, 180, 0, 210, 172] := by decide +kernel
noncomputable def MX3_knock (g : RO) : MT := ((RX3, cX3_knock, 1, 1, 0, 0, false, some .int), [(27, 7, 0), (210, 7, 5)], [], [], [], [], 0, [], [], [], 0, [], [], g)
theorem eX3_knock_0 {g : RO} {Q : Ot → Hw → Prop} {w : Hw} {st : List Value} {k n p : Nat} : WP (MX3_knock g) Q (Prod.mk 0 (Prod.mk (List.cons (Option.some (Value.ref p)) List.nil) (Prod.mk st (Prod.mk w (Prod.mk k n))))) = go (w p) 7 fun fs => 0 < fs.length ∧ (narrow (.int) (Value.int 0) = (Value.int 0) ∧ fits (.int) (Value.int 0) = true) ∧ WP (MX3_knock g) Q (Prod.mk 5 (Prod.mk (List.cons (Option.some (Value.ref p)) List.nil) (Prod.mk st (Prod.mk (upw w p (.inr (7, fs.set 0 (Value.int 0)))) (Prod.mk k n))))) := Eq.trans (alnR_e rfl (oy_42 qx_cX3_knock_0 0 rfl) rfl) (Eq.trans (ic_0 rfl (oy_3 qx_cX3_knock_0 1 rfl)) (put_e (q := (RX3, TX3, 7)) rfl (oy_181 qx_cX3_knock_0 2 0 27 rfl rfl rfl rfl) rfl rfl (tyX3_ok 0 (by decide)) (Or.inl rfl)))
theorem eX3_knock_5 {g : RO} {Q : Ot → Hw → Prop} {w : Hw} {st : List Value} {k n p : Nat} : WP (MX3_knock g) Q (Prod.mk 5 (Prod.mk (List.cons (Option.some (Value.ref p)) List.nil) (Prod.mk st (Prod.mk w (Prod.mk k n))))) = go (rd g w p) 7 fun fs => ∃ v, fs[5]? = some v ∧ WP (MX3_knock g) Q (Prod.mk 10 (Prod.mk (List.cons (Option.some (Value.ref p)) List.nil) (Prod.mk (List.cons v (List.cons (Value.ref p) st)) (Prod.mk w (Prod.mk k n))))) := Eq.trans (alnR_e rfl (oy_42 qx_cX3_knock_0 5 rfl) rfl) (Eq.trans (dupR_e rfl (oy_89 qx_cX3_knock_0 6 rfl)) (get_e rfl (oy_180 qx_cX3_knock_0 7 0 210 rfl rfl rfl rfl) rfl))
theorem eX3_knock_10 {g : RO} {Q : Ot → Hw → Prop} {w : Hw} {a : Int32} {st : List Value} {k n p : Nat} {l0 : Option Value} : WP (MX3_knock g) Q (Prod.mk 10 (Prod.mk (List.cons l0 List.nil) (Prod.mk (List.cons (Value.int a) (List.cons (Value.ref p) st)) (Prod.mk w (Prod.mk k n))))) = go (w p) 7 fun fs => 5 < fs.length ∧ (narrow (.int) (Value.int (a + 1)) = (Value.int (a + 1)) ∧ fits (.int) (Value.int (a + 1)) = true) ∧ WP (MX3_knock g) Q (Prod.mk 15 (Prod.mk (List.cons l0 List.nil) (Prod.mk st (Prod.mk (upw w p (.inr (7, fs.set 5 (Value.int (a + 1))))) (Prod.mk k n))))) := Eq.trans (ic_1 rfl (oy_4 qx_cX3_knock_0 10 rfl)) (Eq.trans (iadd_e rfl (oy_96 qx_cX3_knock_0 11 rfl)) (put_e (q := (RX3, TX3, 7)) rfl (oy_181 qx_cX3_knock_0 12 0 210 rfl rfl rfl rfl) rfl rfl (tyX3_ok 5 (by decide)) (Or.inl rfl)))
theorem eX3_knock_15 {g : RO} {Q : Ot → Hw → Prop} {w : Hw} {st : List Value} {k n p : Nat} : WP (MX3_knock g) Q (Prod.mk 15 (Prod.mk (List.cons (Option.some (Value.ref p)) List.nil) (Prod.mk st (Prod.mk w (Prod.mk k n))))) = go (rd g w p) 7 fun fs => ∃ v, fs[5]? = some v ∧ WP (MX3_knock g) Q (Prod.mk 19 (Prod.mk (List.cons (Option.some (Value.ref p)) List.nil) (Prod.mk (List.cons v st) (Prod.mk w (Prod.mk k n))))) := Eq.trans (alnR_e rfl (oy_42 qx_cX3_knock_0 15 rfl) rfl) (get_e rfl (oy_180 qx_cX3_knock_0 16 0 210 rfl rfl rfl rfl) rfl)
theorem eX3_knock_19 {g : RO} {Q : Ot → Hw → Prop} {w : Hw} {k n : Nat} {a : Int32} {l0 : Option Value} : WP (MX3_knock g) Q (Prod.mk 19 (Prod.mk (List.cons l0 List.nil) (Prod.mk (List.cons (Value.int a) List.nil) (Prod.mk w (Prod.mk k n))))) = (k ≤ 0 ∧ n ≤ 0 ∧ Q (.inl (Option.some (Value.int a))) w) := iretI_e rfl (oy_172 qx_cX3_knock_0 19 rfl) rfl
theorem vMX3_knock {l : Launch} (hl : l.stackTraces = false) (G : GT) : vM l G (MX3_knock (gg G)) := vM_k RX3 cX3_knock rfl rfl (all_c (vF_RX3_27) (all_c (vF_RX3_210) (all_n))) all_n all_n all_n all_n (fun h => absurd rfl h) all_n all_n all_n (fun h => absurd rfl h) rfl all_n
theorem okX3_knock {l : Launch} (hl : l.stackTraces = false) {G : GT} : ∀ (args : List Value) (w : Hw) (S : Ot → Hw → Prop), spOf (MX3_knock (gg G)) args w S → CX l G yX3_knock (.code yX3_knock cX3_knock 1 (some .int)) 1 0 0 args w S := CX_sp (M := MX3_knock (gg G)) (y := yX3_knock) hl pn15 rfl (vMX3_knock hl G) (fun h => by cases h) rfl
theorem qx_cX3_isSound_0 : ((cX3_isSound.data.toList.drop 0).take 38).map UInt8.toNat = [42, 3, 181, 0, 27, 4, 172] := by decide +kernel
noncomputable def MX3_isSound (g : RO) : MT := ((RX3, cX3_isSound, 1, 1, 0, 0, false, some .boolean), [(27, 7, 0)], [], [], [], [], 0, [], [], [], 0, [], [], g)
theorem eX3_isSound_0 {g : RO} {Q : Ot → Hw → Prop} {w : Hw} {st : List Value} {k n p : Nat} : WP (MX3_isSound g) Q (Prod.mk 0 (Prod.mk (List.cons (Option.some (Value.ref p)) List.nil) (Prod.mk st (Prod.mk w (Prod.mk k n))))) = go (w p) 7 fun fs => 0 < fs.length ∧ (narrow (.int) (Value.int 0) = (Value.int 0) ∧ fits (.int) (Value.int 0) = true) ∧ WP (MX3_isSound g) Q (Prod.mk 5 (Prod.mk (List.cons (Option.some (Value.ref p)) List.nil) (Prod.mk st (Prod.mk (upw w p (.inr (7, fs.set 0 (Value.int 0)))) (Prod.mk k n))))) := Eq.trans (alnR_e rfl (oy_42 qx_cX3_isSound_0 0 rfl) rfl) (Eq.trans (ic_0 rfl (oy_3 qx_cX3_isSound_0 1 rfl)) (put_e (q := (RX3, TX3, 7)) rfl (oy_181 qx_cX3_isSound_0 2 0 27 rfl rfl rfl rfl) rfl rfl (tyX3_ok 0 (by decide)) (Or.inl rfl)))
theorem eX3_isSound_5 {g : RO} {Q : Ot → Hw → Prop} {w : Hw} {k n : Nat} {l0 : Option Value} : WP (MX3_isSound g) Q (Prod.mk 5 (Prod.mk (List.cons l0 List.nil) (Prod.mk List.nil (Prod.mk w (Prod.mk k n))))) = (narrow (.boolean) (Value.int (1 : Int32)) = Value.int (1 : Int32) ∧ k ≤ 0 ∧ n ≤ 0 ∧ Q (.inl (Option.some (Value.int (1 : Int32)))) w) := Eq.trans (ic_1 rfl (oy_4 qx_cX3_isSound_0 5 rfl)) (iret_e rfl (oy_172 qx_cX3_isSound_0 6 rfl) rfl)
theorem vMX3_isSound {l : Launch} (hl : l.stackTraces = false) (G : GT) : vM l G (MX3_isSound (gg G)) := vM_k RX3 cX3_isSound rfl rfl (all_c (vF_RX3_27) (all_n)) all_n all_n all_n all_n (fun h => absurd rfl h) all_n all_n all_n (fun h => absurd rfl h) rfl all_n
theorem okX3_isSound {l : Launch} (hl : l.stackTraces = false) {G : GT} : ∀ (args : List Value) (w : Hw) (S : Ot → Hw → Prop), spOf (MX3_isSound (gg G)) args w S → CX l G yX3_isSound (.code yX3_isSound cX3_isSound 1 (some .boolean)) 1 0 0 args w S := CX_sp (M := MX3_isSound (gg G)) (y := yX3_isSound) hl pn15 rfl (vMX3_isSound hl G) (fun h => by cases h) rfl
theorem qx_cX3_add_0 : ((cX3_add.data.toList.drop 0).take 38).map UInt8.toNat = [30, 20, 0, 216, 105, 32, 97, 173] := by decide +kernel
noncomputable def MX3_add (g : RO) : MT := ((RX3, cX3_add, 4, 1, 0, 0, false, some .long), [], [], [], [(216, 31)], [], 0, [], [], [], 0, [], [], g)
theorem eX3_add_0 {g : RO} {Q : Ot → Hw → Prop} {w : Hw} {x y : Int64} {k n : Nat} {l1 l3 : Option Value} : WP (MX3_add g) Q (Prod.mk 0 (Prod.mk (List.cons (Option.some (Value.long x)) (List.cons l1 (List.cons (Option.some (Value.long y)) (List.cons l3 List.nil)))) (Prod.mk List.nil (Prod.mk w (Prod.mk k n))))) = (k ≤ 0 ∧ n ≤ 0 ∧ Q (.inl (Option.some (Value.long ((x * 31) + y)))) w) := Eq.trans (lln_e rfl (oy_30 qx_cX3_add_0 0 rfl) rfl) (Eq.trans (ldc2_e rfl (oy_20 qx_cX3_add_0 1 0 216 rfl rfl rfl rfl) rfl) (Eq.trans (lmul_e rfl (oy_105 qx_cX3_add_0 4 rfl)) (Eq.trans (lln_e rfl (oy_32 qx_cX3_add_0 5 rfl) rfl) (Eq.trans (ladd_e rfl (oy_97 qx_cX3_add_0 6 rfl)) (lret_e rfl (oy_173 qx_cX3_add_0 7 rfl) rfl)))))
theorem wk_1670 : (.constantLong RX3 216 (31) : Jvm.Cond) ∈ WS := WS_t7 172 (by eq_refl) (by eq_refl)
theorem vMX3_add {l : Launch} (hl : l.stackTraces = false) (G : GT) : vM l G (MX3_add (gg G)) := vM_k RX3 cX3_add rfl rfl all_n all_n all_n (all_c (wk_1670) (all_n)) all_n (fun h => absurd rfl h) all_n all_n all_n (fun h => absurd rfl h) rfl all_n
theorem okX3_add {l : Launch} (hl : l.stackTraces = false) {G : GT} : ∀ (args : List Value) (w : Hw) (S : Ot → Hw → Prop), spOf (MX3_add (gg G)) args w S → CX l G yX3_add (.code yX3_add cX3_add 4 (some .long)) 1 0 0 args w S := CX_sp (M := MX3_add (gg G)) (y := yX3_add) hl pn15 rfl (vMX3_add hl G) (fun h => by cases h) rfl
theorem qx_cX3_digest_0 : ((cX3_digest.data.toList.drop 0).take 38).map UInt8.toNat = [42, 3, 181, 0, 27, 20, 0, 218, 64, 3, 62, 29, 7, 163, 0, 20, 31, 42, 29, 182, 0, 213, 133, 184, 0, 220, 64, 132, 3, 1, 167, 255, 237, 3, 62, 29, 16, 8] := by decide +kernel
theorem qx_cX3_digest_1 : ((cX3_digest.data.toList.drop 32).take 38).map UInt8.toNat = [237, 3, 62, 29, 16, 8, 162, 0, 57, 31, 42, 180, 0, 9, 29, 47, 184, 0, 57, 133, 184, 0, 220, 42, 180, 0, 9, 29, 47, 184, 0, 61, 133, 184, 0, 220, 42, 29] := by decide +kernel
theorem qx_cX3_digest_2 : ((cX3_digest.data.toList.drop 64).take 38).map UInt8.toNat = [133, 184, 0, 220, 42, 29, 3, 182, 0, 164, 133, 184, 0, 220, 42, 29, 4, 182, 0, 164, 133, 184, 0, 220, 64, 132, 3, 1, 167, 255, 199, 3, 62, 29, 16, 6, 162, 0] := by decide +kernel
theorem qx_cX3_digest_3 : ((cX3_digest.data.toList.drop 96).take 38).map UInt8.toNat = [62, 29, 16, 6, 162, 0, 214, 31, 42, 29, 182, 0, 118, 154, 0, 7, 4, 167, 0, 4, 3, 184, 0, 92, 133, 184, 0, 220, 64, 42, 29, 182, 0, 118, 153, 0, 6, 167] := by decide +kernel
theorem qx_cX3_digest_4 : ((cX3_digest.data.toList.drop 128).take 38).map UInt8.toNat = [0, 118, 153, 0, 6, 167, 0, 175, 42, 180, 0, 16, 29, 182, 0, 42, 192, 0, 125, 58, 4, 3, 54, 5, 21, 5, 7, 162, 0, 59, 31, 25, 4, 21, 5, 47, 184, 0] := by decide +kernel
theorem qx_cX3_digest_5 : ((cX3_digest.data.toList.drop 160).take 38).map UInt8.toNat = [4, 21, 5, 47, 184, 0, 57, 133, 184, 0, 220, 25, 4, 21, 5, 47, 184, 0, 61, 133, 184, 0, 220, 25, 4, 21, 5, 3, 184, 0, 160, 133, 184, 0, 220, 25, 4, 21] := by decide +kernel
theorem qx_cX3_digest_6 : ((cX3_digest.data.toList.drop 192).take 38).map UInt8.toNat = [184, 0, 220, 25, 4, 21, 5, 4, 184, 0, 160, 133, 184, 0, 220, 64, 132, 5, 1, 167, 255, 197, 31, 25, 4, 184, 0, 130, 184, 0, 92, 133, 184, 0, 220, 25, 4, 184] := by decide +kernel
theorem qx_cX3_digest_7 : ((cX3_digest.data.toList.drop 224).take 38).map UInt8.toNat = [184, 0, 220, 25, 4, 184, 0, 137, 184, 0, 92, 133, 184, 0, 220, 42, 29, 182, 0, 171, 133, 184, 0, 220, 64, 31, 42, 29, 3, 182, 0, 177, 133, 184, 0, 220, 42, 29] := by decide +kernel
theorem qx_cX3_digest_8 : ((cX3_digest.data.toList.drop 256).take 38).map UInt8.toNat = [133, 184, 0, 220, 42, 29, 4, 182, 0, 177, 133, 184, 0, 220, 42, 29, 182, 0, 195, 133, 184, 0, 220, 64, 2, 54, 5, 21, 5, 4, 163, 0, 22, 31, 25, 4, 21, 5] := by decide +kernel
theorem qx_cX3_digest_9 : ((cX3_digest.data.toList.drop 288).take 38).map UInt8.toNat = [22, 31, 25, 4, 21, 5, 184, 0, 156, 133, 184, 0, 220, 64, 132, 5, 1, 167, 255, 234, 132, 3, 1, 167, 255, 42, 3, 62, 29, 5, 163, 0, 20, 31, 42, 29, 182, 0] := by decide +kernel
theorem qx_cX3_digest_10 : ((cX3_digest.data.toList.drop 320).take 38).map UInt8.toNat = [20, 31, 42, 29, 182, 0, 168, 133, 184, 0, 220, 64, 132, 3, 1, 167, 255, 237, 3, 62, 29, 8, 163, 0, 21, 31, 42, 3, 29, 182, 0, 207, 133, 184, 0, 220, 64, 132] := by decide +kernel
theorem qx_cX3_digest_11 : ((cX3_digest.data.toList.drop 352).take 38).map UInt8.toNat = [133, 184, 0, 220, 64, 132, 3, 1, 167, 255, 236, 31, 10, 184, 0, 220, 173] := by decide +kernel
noncomputable def MX3_digest (g : RO) : MT := ((RX3, cX3_digest, 6, 6, 90, 520, false, some .long), [(27, 7, 0), (9, 7, 1), (16, 7, 2)], [], [], [(218, 7783)], [], 0, [(213, 2, 2, 7, 3, (fun _ _ => 2), (fun _ _ => 9), yX3_houseNow, spOf (MX3_houseNow g)), (220, 0, 2, 0, 1, (fun _ _ => 0), (fun _ _ => 0), yX3_add, spOf (MX3_add g)), (57, 0, 1, 0, 1, (fun _ _ => 0), (fun _ _ => 0), yX3_high, spOf (MX3_high g)), (61, 0, 1, 0, 1, (fun _ _ => 0), (fun _ _ => 0), yX3_low, spOf (MX3_low g)), (164, 2, 3, 7, 5, (fun _ _ => 0), (fun _ _ => 0), yX3_whoNow, spOf (MX3_whoNow g)), (118, 2, 2, 7, 4, (fun _ _ => 0), (fun _ _ => 0), yX3_isBare, spOf (MX3_isBare g)), (92, 0, 1, 0, 1, (fun _ _ => 0), (fun _ _ => 0), yX3_one, spOf (MX3_one g)), (42, 2, 2, 3, 3, (fun _ _ => 0), (fun _ _ => 0), yJx4a65c_get_915e3, spOf (MJx4a65c_get_915e3 g)), (160, 0, 3, 0, 3, (fun _ _ => 0), (fun _ _ => 0), yX3_aroundNow, spOf (MX3_aroundNow g)), (130, 0, 1, 0, 1, (fun _ _ => 0), (fun _ _ => 0), yX3_fixed, spOf (MX3_fixed g)), (137, 0, 1, 0, 1, (fun _ _ => 0), (fun _ _ => 0), yX3_small, spOf (MX3_small g)), (171, 2, 2, 7, 5, (fun _ _ => 0), (fun _ _ => 0), yX3_likesNow, spOf (MX3_likesNow g)), (177, 2, 3, 7, 4, (fun _ _ => 0), (fun _ _ => 0), yX3_seekNow, spOf (MX3_seekNow g)), (195, 2, 2, 7, 4, (fun _ _ => 1), (fun _ _ => 4), yX3_oftenNow, spOf (MX3_oftenNow g)), (156, 0, 2, 0, 3, (fun _ _ => 0), (fun _ _ => 0), yX3_whichNow, spOf (MX3_whichNow g)), (168, 2, 2, 7, 5, (fun _ _ => 0), (fun _ _ => 0), yX3_whichNow_, spOf (MX3_whichNow_ g)), (207, 2, 3, 7, 5, (fun _ _ => 12), (fun _ _ => 72), yX3_pileNow, spOf (MX3_pileNow g))], [], [(125, 0)], 0, [], [], g)
theorem eX3_digest_0 {g : RO} {Q : Ot → Hw → Prop} {w : Hw} {st : List Value} {k n p : Nat} {l1 l2 l3 l4 l5 : Option Value} : WP (MX3_digest g) Q (Prod.mk 0 (Prod.mk (List.cons (Option.some (Value.ref p)) (List.cons l1 (List.cons l2 (List.cons l3 (List.cons l4 (List.cons l5 List.nil)))))) (Prod.mk st (Prod.mk w (Prod.mk k n))))) = go (w p) 7 fun fs => 0 < fs.length ∧ (narrow (.int) (Value.int 0) = (Value.int 0) ∧ fits (.int) (Value.int 0) = true) ∧ WP (MX3_digest g) Q (Prod.mk 5 (Prod.mk (List.cons (Option.some (Value.ref p)) (List.cons l1 (List.cons l2 (List.cons l3 (List.cons l4 (List.cons l5 List.nil)))))) (Prod.mk st (Prod.mk (upw w p (.inr (7, fs.set 0 (Value.int 0)))) (Prod.mk k n))))) := Eq.trans (alnR_e rfl (oy_42 qx_cX3_digest_0 0 rfl) rfl) (Eq.trans (ic_0 rfl (oy_3 qx_cX3_digest_0 1 rfl)) (put_e (q := (RX3, TX3, 7)) rfl (oy_181 qx_cX3_digest_0 2 0 27 rfl rfl rfl rfl) rfl rfl (tyX3_ok 0 (by decide)) (Or.inl rfl)))
theorem eX3_digest_5 {g : RO} {Q : Ot → Hw → Prop} {w : Hw} {st : List Value} {k n : Nat} {l0 l1 l2 l3 l4 l5 : Option Value} : WP (MX3_digest g) Q (Prod.mk 5 (Prod.mk (List.cons l0 (List.cons l1 (List.cons l2 (List.cons l3 (List.cons l4 (List.cons l5 List.nil)))))) (Prod.mk st (Prod.mk w (Prod.mk k n))))) = WP (MX3_digest g) Q (Prod.mk 11 (Prod.mk (List.cons (nl l0) (List.cons (Option.some (Value.long 7783)) (List.cons (nl none) (List.cons (Option.some (Value.int (0 : Int32))) (List.cons l4 (List.cons l5 List.nil)))))) (Prod.mk st (Prod.mk w (Prod.mk k n))))) := Eq.trans (ldc2_e rfl (oy_20 qx_cX3_digest_0 5 0 218 rfl rfl rfl rfl) rfl) (Eq.trans (lsn_e rfl (oy_64 qx_cX3_digest_0 8 rfl) rfl rfl) (Eq.trans (ic_0 rfl (oy_3 qx_cX3_digest_0 9 rfl)) (isn_e rfl (oy_62 qx_cX3_digest_0 10 rfl) rfl rfl)))
theorem eX3_digest_11 {g : RO} {Q : Ot → Hw → Prop} {st : List Value} {w : Hw} {k n : Nat} {a : Int32} {l0 l1 l2 l4 l5 : Option Value} : WP (MX3_digest g) Q (Prod.mk 11 (Prod.mk (List.cons l0 (List.cons l1 (List.cons l2 (List.cons (Option.some (Value.int a)) (List.cons l4 (List.cons l5 List.nil)))))) (Prod.mk st (Prod.mk w (Prod.mk k n))))) = WP (MX3_digest g) Q (Prod.mk 12 (Prod.mk (List.cons l0 (List.cons l1 (List.cons l2 (List.cons (Option.some (Value.int a)) (List.cons l4 (List.cons l5 List.nil)))))) (Prod.mk (List.cons (Value.int a) st) (Prod.mk w (Prod.mk k n))))) := iln_e rfl (oy_29 qx_cX3_digest_0 11 rfl) rfl
theorem eX3_digest_12 {g : RO} {Q : Ot → Hw → Prop} {w : Hw} {a : Int32} {st : List Value} {k n : Nat} {l0 l1 l2 l3 l4 l5 : Option Value} : WP (MX3_digest g) Q (Prod.mk 12 (Prod.mk (List.cons l0 (List.cons l1 (List.cons l2 (List.cons l3 (List.cons l4 (List.cons l5 List.nil)))))) (Prod.mk (List.cons (Value.int a) st) (Prod.mk w (Prod.mk k n))))) = if (4 : Int32) < a then WP (MX3_digest g) Q (Prod.mk 33 (Prod.mk (List.cons l0 (List.cons l1 (List.cons l2 (List.cons l3 (List.cons l4 (List.cons l5 List.nil)))))) (Prod.mk st (Prod.mk w (Prod.mk k n))))) else WP (MX3_digest g) Q (Prod.mk 16 (Prod.mk (List.cons l0 (List.cons l1 (List.cons l2 (List.cons l3 (List.cons l4 (List.cons l5 List.nil)))))) (Prod.mk st (Prod.mk w (Prod.mk k n))))) := Eq.trans (ic_4 rfl (oy_7 qx_cX3_digest_0 12 rfl)) (icm_e ((4 : Int32) < a) rfl (oy_163 qx_cX3_digest_0 13 0 20 rfl rfl rfl rfl) rfl (by decide))
theorem eX3_digest_16 {g : RO} {Q : Ot → Hw → Prop} {w : Hw} {z0 : Int32} {x : Int64} {st : List Value} {k n p : Nat} {l2 l4 l5 : Option Value} : WP (MX3_digest g) Q (Prod.mk 16 (Prod.mk (List.cons (Option.some (Value.ref p)) (List.cons (Option.some (Value.long x)) (List.cons l2 (List.cons (Option.some (Value.int z0)) (List.cons l4 (List.cons l5 List.nil)))))) (Prod.mk st (Prod.mk w (Prod.mk k n))))) = (go (rd g w p) 7 (fun _ => True) ∧ wt (List.cons (Value.long x) st) ≤ 8 ∧ k + 2 ≤ 90 ∧ n + 9 ≤ 520 ∧ WP (MX3_houseNow g) (kx (fun v w' => WP (MX3_digest g) Q (Prod.mk 22 (Prod.mk (List.cons (Option.some (Value.ref p)) (List.cons (Option.some (Value.long x)) (List.cons l2 (List.cons (Option.some (Value.int z0)) (List.cons l4 (List.cons l5 List.nil)))))) (Prod.mk (v.toList ++ (List.cons (Value.long x) st)) (Prod.mk w' (Prod.mk (k + 2) (n + 9))))))) (fun E w' => Q (.inr E) w')) (Prod.mk 0 (Prod.mk (List.cons (Option.some (Value.ref p)) (List.cons (Option.some (Value.int z0)) (List.cons none (List.cons none (List.cons none List.nil))))) (Prod.mk List.nil (Prod.mk w (Prod.mk 0 0)))))) := Eq.trans (lln_e rfl (oy_31 qx_cX3_digest_0 16 rfl) rfl) (Eq.trans (alnR_e rfl (oy_42 qx_cX3_digest_0 17 rfl) rfl) (Eq.trans (iln_e rfl (oy_29 qx_cX3_digest_0 18 rfl) rfl) (csV0 (M := (MX3_digest g)) (mc := (fun _ _ => 2)) (ms := (fun _ _ => 9)) (As := [.int z0]) (rest := (List.cons (Value.long x) st)) (MX3_houseNow g) rfl rfl rfl (oy_182 qx_cX3_digest_0 19 0 213 rfl rfl rfl rfl) rfl rfl rfl rfl rfl rfl)))
theorem eX3_digest_22 {g : RO} {Q : Ot → Hw → Prop} {w : Hw} {a : Int32} {z0 : Int64} {st : List Value} {k n : Nat} {l0 l1 l2 l3 l4 l5 : Option Value} : WP (MX3_digest g) Q (Prod.mk 22 (Prod.mk (List.cons l0 (List.cons l1 (List.cons l2 (List.cons l3 (List.cons l4 (List.cons l5 List.nil)))))) (Prod.mk (List.cons (Value.int a) (List.cons (Value.long z0) st)) (Prod.mk w (Prod.mk k n))))) = (wt st ≤ 8 ∧ k + 0 ≤ 90 ∧ n + 0 ≤ 520 ∧ WP (MX3_add g) (kx (fun v w' => WP (MX3_digest g) Q (Prod.mk 26 (Prod.mk (List.cons l0 (List.cons l1 (List.cons l2 (List.cons l3 (List.cons l4 (List.cons l5 List.nil)))))) (Prod.mk (v.toList ++ st) (Prod.mk w' (Prod.mk (k + 0) (n + 0))))))) (fun E w' => Q (.inr E) w')) (Prod.mk 0 (Prod.mk (List.cons (Option.some (Value.long z0)) (List.cons none (List.cons (Option.some (Value.long (a.toInt64 : Int64))) (List.cons none List.nil)))) (Prod.mk List.nil (Prod.mk w (Prod.mk 0 0)))))) := Eq.trans (i2l_e rfl (oy_133 qx_cX3_digest_0 22 rfl)) (csS0 (M := (MX3_digest g)) (mc := (fun _ _ => 0)) (ms := (fun _ _ => 0)) (As := [.long z0, .long (a.toInt64 : Int64)]) (rest := st) (MX3_add g) rfl rfl rfl (oy_184 qx_cX3_digest_0 23 0 220 rfl rfl rfl rfl) rfl rfl rfl rfl rfl rfl rfl)
theorem eX3_digest_26 {g : RO} {Q : Ot → Hw → Prop} {w : Hw} {a : Int32} {x : Int64} {st : List Value} {k n : Nat} {l0 l1 l2 l4 l5 : Option Value} : WP (MX3_digest g) Q (Prod.mk 26 (Prod.mk (List.cons l0 (List.cons l1 (List.cons l2 (List.cons (Option.some (Value.int a)) (List.cons l4 (List.cons l5 List.nil)))))) (Prod.mk (List.cons (Value.long x) st) (Prod.mk w (Prod.mk k n))))) = WP (MX3_digest g) Q (Prod.mk 11 (Prod.mk (List.cons (nl l0) (List.cons (Option.some (Value.long x)) (List.cons (nl none) (List.cons (Option.some (Value.int (a + 1))) (List.cons l4 (List.cons l5 List.nil)))))) (Prod.mk st (Prod.mk w (Prod.mk k n))))) := Eq.trans (lsn_e rfl (oy_64 qx_cX3_digest_0 26 rfl) rfl rfl) (Eq.trans (Eq.trans (iinc_e (M := (MX3_digest g)) (L := [(nl l0), (Option.some (Value.long x)), none, some (.int a), l4, l5]) (d := 1) rfl (oy_132 qx_cX3_digest_0 27 3 1 rfl rfl rfl rfl) (by decide) rfl) rfl) (goto_e rfl (oy_167 qx_cX3_digest_0 30 255 237 rfl rfl rfl rfl) (by decide)))
theorem eX3_digest_33 {g : RO} {Q : Ot → Hw → Prop} {w : Hw} {st : List Value} {k n : Nat} {l0 l1 l2 l3 l4 l5 : Option Value} : WP (MX3_digest g) Q (Prod.mk 33 (Prod.mk (List.cons l0 (List.cons l1 (List.cons l2 (List.cons l3 (List.cons l4 (List.cons l5 List.nil)))))) (Prod.mk st (Prod.mk w (Prod.mk k n))))) = WP (MX3_digest g) Q (Prod.mk 35 (Prod.mk (List.cons l0 (List.cons l1 (List.cons (nl l2) (List.cons (Option.some (Value.int (0 : Int32))) (List.cons l4 (List.cons l5 List.nil)))))) (Prod.mk st (Prod.mk w (Prod.mk k n))))) := Eq.trans (ic_0 rfl (oy_3 qx_cX3_digest_1 1 rfl)) (isn_e rfl (oy_62 qx_cX3_digest_1 2 rfl) rfl rfl)
theorem eX3_digest_35 {g : RO} {Q : Ot → Hw → Prop} {st : List Value} {w : Hw} {k n : Nat} {a : Int32} {l0 l1 l2 l4 l5 : Option Value} : WP (MX3_digest g) Q (Prod.mk 35 (Prod.mk (List.cons l0 (List.cons l1 (List.cons l2 (List.cons (Option.some (Value.int a)) (List.cons l4 (List.cons l5 List.nil)))))) (Prod.mk st (Prod.mk w (Prod.mk k n))))) = WP (MX3_digest g) Q (Prod.mk 36 (Prod.mk (List.cons l0 (List.cons l1 (List.cons l2 (List.cons (Option.some (Value.int a)) (List.cons l4 (List.cons l5 List.nil)))))) (Prod.mk (List.cons (Value.int a) st) (Prod.mk w (Prod.mk k n))))) := iln_e rfl (oy_29 qx_cX3_digest_1 3 rfl) rfl
theorem eX3_digest_36 {g : RO} {Q : Ot → Hw → Prop} {w : Hw} {a : Int32} {st : List Value} {k n : Nat} {l0 l1 l2 l3 l4 l5 : Option Value} : WP (MX3_digest g) Q (Prod.mk 36 (Prod.mk (List.cons l0 (List.cons l1 (List.cons l2 (List.cons l3 (List.cons l4 (List.cons l5 List.nil)))))) (Prod.mk (List.cons (Value.int a) st) (Prod.mk w (Prod.mk k n))))) = if (8 : Int32) ≤ a then WP (MX3_digest g) Q (Prod.mk 95 (Prod.mk (List.cons l0 (List.cons l1 (List.cons l2 (List.cons l3 (List.cons l4 (List.cons l5 List.nil)))))) (Prod.mk st (Prod.mk w (Prod.mk k n))))) else WP (MX3_digest g) Q (Prod.mk 41 (Prod.mk (List.cons l0 (List.cons l1 (List.cons l2 (List.cons l3 (List.cons l4 (List.cons l5 List.nil)))))) (Prod.mk st (Prod.mk w (Prod.mk k n))))) := Eq.trans (bipush_e rfl (oy_16 qx_cX3_digest_1 4 8 rfl rfl rfl) (by decide)) (icm_e ((8 : Int32) ≤ a) rfl (oy_162 qx_cX3_digest_1 6 0 57 rfl rfl rfl rfl) rfl (by decide))
theorem eX3_digest_41 {g : RO} {Q : Ot → Hw → Prop} {w : Hw} {x : Int64} {st : List Value} {k n p : Nat} {l2 l3 l4 l5 : Option Value} : WP (MX3_digest g) Q (Prod.mk 41 (Prod.mk (List.cons (Option.some (Value.ref p)) (List.cons (Option.some (Value.long x)) (List.cons l2 (List.cons l3 (List.cons l4 (List.cons l5 List.nil)))))) (Prod.mk st (Prod.mk w (Prod.mk k n))))) = go (rd g w p) 7 fun fs => ∃ v, fs[1]? = some v ∧ WP (MX3_digest g) Q (Prod.mk 46 (Prod.mk (List.cons (Option.some (Value.ref p)) (List.cons (Option.some (Value.long x)) (List.cons l2 (List.cons l3 (List.cons l4 (List.cons l5 List.nil)))))) (Prod.mk (List.cons v (List.cons (Value.long x) st)) (Prod.mk w (Prod.mk k n))))) := Eq.trans (lln_e rfl (oy_31 qx_cX3_digest_1 9 rfl) rfl) (Eq.trans (alnR_e rfl (oy_42 qx_cX3_digest_1 10 rfl) rfl) (get_e rfl (oy_180 qx_cX3_digest_1 11 0 9 rfl rfl rfl rfl) rfl))
theorem eX3_digest_46 {g : RO} {Q : Ot → Hw → Prop} {st : List Value} {w : Hw} {k n : Nat} {a : Int32} {l0 l1 l2 l4 l5 : Option Value} : WP (MX3_digest g) Q (Prod.mk 46 (Prod.mk (List.cons l0 (List.cons l1 (List.cons l2 (List.cons (Option.some (Value.int a)) (List.cons l4 (List.cons l5 List.nil)))))) (Prod.mk st (Prod.mk w (Prod.mk k n))))) = WP (MX3_digest g) Q (Prod.mk 47 (Prod.mk (List.cons l0 (List.cons l1 (List.cons l2 (List.cons (Option.some (Value.int a)) (List.cons l4 (List.cons l5 List.nil)))))) (Prod.mk (List.cons (Value.int a) st) (Prod.mk w (Prod.mk k n))))) := iln_e rfl (oy_29 qx_cX3_digest_1 14 rfl) rfl
theorem eX3_digest_47 {g : RO} {Q : Ot → Hw → Prop} {st : List Value} {w : Hw} {k n p : Nat} {a : Int32} {l0 l1 l2 l3 l4 l5 : Option Value} : WP (MX3_digest g) Q (Prod.mk 47 (Prod.mk (List.cons l0 (List.cons l1 (List.cons l2 (List.cons l3 (List.cons l4 (List.cons l5 List.nil)))))) (Prod.mk (List.cons (Value.int a) (List.cons (Value.ref p) st)) (Prod.mk w (Prod.mk k n))))) = gl (rd g w p) 0 fun N f => vp_in a N ∧ WP (MX3_digest g) Q (Prod.mk 48 (Prod.mk (List.cons l0 (List.cons l1 (List.cons l2 (List.cons l3 (List.cons l4 (List.cons l5 List.nil)))))) (Prod.mk (List.cons (Value.long (f a.toNatClampNeg)) st) (Prod.mk w (Prod.mk k n))))) := laload_e rfl (oy_47 qx_cX3_digest_1 15 rfl)
theorem eX3_digest_48 {g : RO} {Q : Ot → Hw → Prop} {st : List Value} {w : Hw} {k n : Nat} {l0 l1 l2 l3 l4 l5 : Option Value} {z0 : Int64} : WP (MX3_digest g) Q (Prod.mk 48 (Prod.mk (List.cons l0 (List.cons l1 (List.cons l2 (List.cons l3 (List.cons l4 (List.cons l5 List.nil)))))) (Prod.mk (List.cons (Value.long z0) st) (Prod.mk w (Prod.mk k n))))) = (wt st ≤ 8 ∧ k + 0 ≤ 90 ∧ n + 0 ≤ 520 ∧ WP (MX3_high g) (kx (fun v w' => WP (MX3_digest g) Q (Prod.mk 51 (Prod.mk (List.cons l0 (List.cons l1 (List.cons l2 (List.cons l3 (List.cons l4 (List.cons l5 List.nil)))))) (Prod.mk (v.toList ++ st) (Prod.mk w' (Prod.mk (k + 0) (n + 0))))))) (fun E w' => Q (.inr E) w')) (Prod.mk 0 (Prod.mk (List.cons (Option.some (Value.long z0)) (List.cons none List.nil)) (Prod.mk List.nil (Prod.mk w (Prod.mk 0 0)))))) := csS0 (M := (MX3_digest g)) (mc := (fun _ _ => 0)) (ms := (fun _ _ => 0)) (As := [.long z0]) (rest := st) (MX3_high g) rfl rfl rfl (oy_184 qx_cX3_digest_1 16 0 57 rfl rfl rfl rfl) rfl rfl rfl rfl rfl rfl rfl
theorem eX3_digest_51 {g : RO} {Q : Ot → Hw → Prop} {w : Hw} {a : Int32} {z0 : Int64} {st : List Value} {k n : Nat} {l0 l1 l2 l3 l4 l5 : Option Value} : WP (MX3_digest g) Q (Prod.mk 51 (Prod.mk (List.cons l0 (List.cons l1 (List.cons l2 (List.cons l3 (List.cons l4 (List.cons l5 List.nil)))))) (Prod.mk (List.cons (Value.int a) (List.cons (Value.long z0) st)) (Prod.mk w (Prod.mk k n))))) = (wt st ≤ 8 ∧ k + 0 ≤ 90 ∧ n + 0 ≤ 520 ∧ WP (MX3_add g) (kx (fun v w' => WP (MX3_digest g) Q (Prod.mk 55 (Prod.mk (List.cons l0 (List.cons l1 (List.cons l2 (List.cons l3 (List.cons l4 (List.cons l5 List.nil)))))) (Prod.mk (v.toList ++ st) (Prod.mk w' (Prod.mk (k + 0) (n + 0))))))) (fun E w' => Q (.inr E) w')) (Prod.mk 0 (Prod.mk (List.cons (Option.some (Value.long z0)) (List.cons none (List.cons (Option.some (Value.long (a.toInt64 : Int64))) (List.cons none List.nil)))) (Prod.mk List.nil (Prod.mk w (Prod.mk 0 0)))))) := Eq.trans (i2l_e rfl (oy_133 qx_cX3_digest_1 19 rfl)) (csS0 (M := (MX3_digest g)) (mc := (fun _ _ => 0)) (ms := (fun _ _ => 0)) (As := [.long z0, .long (a.toInt64 : Int64)]) (rest := st) (MX3_add g) rfl rfl rfl (oy_184 qx_cX3_digest_1 20 0 220 rfl rfl rfl rfl) rfl rfl rfl rfl rfl rfl rfl)
theorem eX3_digest_55 {g : RO} {Q : Ot → Hw → Prop} {w : Hw} {st : List Value} {k n p : Nat} {l1 l2 l3 l4 l5 : Option Value} : WP (MX3_digest g) Q (Prod.mk 55 (Prod.mk (List.cons (Option.some (Value.ref p)) (List.cons l1 (List.cons l2 (List.cons l3 (List.cons l4 (List.cons l5 List.nil)))))) (Prod.mk st (Prod.mk w (Prod.mk k n))))) = go (rd g w p) 7 fun fs => ∃ v, fs[1]? = some v ∧ WP (MX3_digest g) Q (Prod.mk 59 (Prod.mk (List.cons (Option.some (Value.ref p)) (List.cons l1 (List.cons l2 (List.cons l3 (List.cons l4 (List.cons l5 List.nil)))))) (Prod.mk (List.cons v st) (Prod.mk w (Prod.mk k n))))) := Eq.trans (alnR_e rfl (oy_42 qx_cX3_digest_1 23 rfl) rfl) (get_e rfl (oy_180 qx_cX3_digest_1 24 0 9 rfl rfl rfl rfl) rfl)
theorem eX3_digest_59 {g : RO} {Q : Ot → Hw → Prop} {st : List Value} {w : Hw} {k n : Nat} {a : Int32} {l0 l1 l2 l4 l5 : Option Value} : WP (MX3_digest g) Q (Prod.mk 59 (Prod.mk (List.cons l0 (List.cons l1 (List.cons l2 (List.cons (Option.some (Value.int a)) (List.cons l4 (List.cons l5 List.nil)))))) (Prod.mk st (Prod.mk w (Prod.mk k n))))) = WP (MX3_digest g) Q (Prod.mk 60 (Prod.mk (List.cons l0 (List.cons l1 (List.cons l2 (List.cons (Option.some (Value.int a)) (List.cons l4 (List.cons l5 List.nil)))))) (Prod.mk (List.cons (Value.int a) st) (Prod.mk w (Prod.mk k n))))) := iln_e rfl (oy_29 qx_cX3_digest_1 27 rfl) rfl
theorem eX3_digest_60 {g : RO} {Q : Ot → Hw → Prop} {st : List Value} {w : Hw} {k n p : Nat} {a : Int32} {l0 l1 l2 l3 l4 l5 : Option Value} : WP (MX3_digest g) Q (Prod.mk 60 (Prod.mk (List.cons l0 (List.cons l1 (List.cons l2 (List.cons l3 (List.cons l4 (List.cons l5 List.nil)))))) (Prod.mk (List.cons (Value.int a) (List.cons (Value.ref p) st)) (Prod.mk w (Prod.mk k n))))) = gl (rd g w p) 0 fun N f => vp_in a N ∧ WP (MX3_digest g) Q (Prod.mk 61 (Prod.mk (List.cons l0 (List.cons l1 (List.cons l2 (List.cons l3 (List.cons l4 (List.cons l5 List.nil)))))) (Prod.mk (List.cons (Value.long (f a.toNatClampNeg)) st) (Prod.mk w (Prod.mk k n))))) := laload_e rfl (oy_47 qx_cX3_digest_1 28 rfl)
theorem eX3_digest_61 {g : RO} {Q : Ot → Hw → Prop} {st : List Value} {w : Hw} {k n : Nat} {l0 l1 l2 l3 l4 l5 : Option Value} {z0 : Int64} : WP (MX3_digest g) Q (Prod.mk 61 (Prod.mk (List.cons l0 (List.cons l1 (List.cons l2 (List.cons l3 (List.cons l4 (List.cons l5 List.nil)))))) (Prod.mk (List.cons (Value.long z0) st) (Prod.mk w (Prod.mk k n))))) = (wt st ≤ 8 ∧ k + 0 ≤ 90 ∧ n + 0 ≤ 520 ∧ WP (MX3_low g) (kx (fun v w' => WP (MX3_digest g) Q (Prod.mk 64 (Prod.mk (List.cons l0 (List.cons l1 (List.cons l2 (List.cons l3 (List.cons l4 (List.cons l5 List.nil)))))) (Prod.mk (v.toList ++ st) (Prod.mk w' (Prod.mk (k + 0) (n + 0))))))) (fun E w' => Q (.inr E) w')) (Prod.mk 0 (Prod.mk (List.cons (Option.some (Value.long z0)) (List.cons none (List.cons none (List.cons none List.nil)))) (Prod.mk List.nil (Prod.mk w (Prod.mk 0 0)))))) := csS0 (M := (MX3_digest g)) (mc := (fun _ _ => 0)) (ms := (fun _ _ => 0)) (As := [.long z0]) (rest := st) (MX3_low g) rfl rfl rfl (oy_184 qx_cX3_digest_1 29 0 61 rfl rfl rfl rfl) rfl rfl rfl rfl rfl rfl rfl
theorem eX3_digest_64 {g : RO} {Q : Ot → Hw → Prop} {w : Hw} {a : Int32} {z0 : Int64} {st : List Value} {k n : Nat} {l0 l1 l2 l3 l4 l5 : Option Value} : WP (MX3_digest g) Q (Prod.mk 64 (Prod.mk (List.cons l0 (List.cons l1 (List.cons l2 (List.cons l3 (List.cons l4 (List.cons l5 List.nil)))))) (Prod.mk (List.cons (Value.int a) (List.cons (Value.long z0) st)) (Prod.mk w (Prod.mk k n))))) = (wt st ≤ 8 ∧ k + 0 ≤ 90 ∧ n + 0 ≤ 520 ∧ WP (MX3_add g) (kx (fun v w' => WP (MX3_digest g) Q (Prod.mk 68 (Prod.mk (List.cons l0 (List.cons l1 (List.cons l2 (List.cons l3 (List.cons l4 (List.cons l5 List.nil)))))) (Prod.mk (v.toList ++ st) (Prod.mk w' (Prod.mk (k + 0) (n + 0))))))) (fun E w' => Q (.inr E) w')) (Prod.mk 0 (Prod.mk (List.cons (Option.some (Value.long z0)) (List.cons none (List.cons (Option.some (Value.long (a.toInt64 : Int64))) (List.cons none List.nil)))) (Prod.mk List.nil (Prod.mk w (Prod.mk 0 0)))))) := Eq.trans (i2l_e rfl (oy_133 qx_cX3_digest_2 0 rfl)) (csS0 (M := (MX3_digest g)) (mc := (fun _ _ => 0)) (ms := (fun _ _ => 0)) (As := [.long z0, .long (a.toInt64 : Int64)]) (rest := st) (MX3_add g) rfl rfl rfl (oy_184 qx_cX3_digest_2 1 0 220 rfl rfl rfl rfl) rfl rfl rfl rfl rfl rfl rfl)
theorem eX3_digest_68 {g : RO} {Q : Ot → Hw → Prop} {w : Hw} {z0 : Int32} {st : List Value} {k n p : Nat} {l1 l2 l4 l5 : Option Value} : WP (MX3_digest g) Q (Prod.mk 68 (Prod.mk (List.cons (Option.some (Value.ref p)) (List.cons l1 (List.cons l2 (List.cons (Option.some (Value.int z0)) (List.cons l4 (List.cons l5 List.nil)))))) (Prod.mk st (Prod.mk w (Prod.mk k n))))) = (go (rd g w p) 7 (fun _ => True) ∧ wt st ≤ 8 ∧ k + 0 ≤ 90 ∧ n + 0 ≤ 520 ∧ WP (MX3_whoNow g) (kx (fun v w' => WP (MX3_digest g) Q (Prod.mk 74 (Prod.mk (List.cons (Option.some (Value.ref p)) (List.cons l1 (List.cons l2 (List.cons (Option.some (Value.int z0)) (List.cons l4 (List.cons l5 List.nil)))))) (Prod.mk (v.toList ++ st) (Prod.mk w' (Prod.mk (k + 0) (n + 0))))))) (fun E w' => Q (.inr E) w')) (Prod.mk 0 (Prod.mk (List.cons (Option.some (Value.ref p)) (List.cons (Option.some (Value.int z0)) (List.cons (Option.some (Value.int (0 : Int32))) (List.cons none (List.cons none List.nil))))) (Prod.mk List.nil (Prod.mk w (Prod.mk 0 0)))))) := Eq.trans (alnR_e rfl (oy_42 qx_cX3_digest_2 4 rfl) rfl) (Eq.trans (iln_e rfl (oy_29 qx_cX3_digest_2 5 rfl) rfl) (Eq.trans (ic_0 rfl (oy_3 qx_cX3_digest_2 6 rfl)) (csV0 (M := (MX3_digest g)) (mc := (fun _ _ => 0)) (ms := (fun _ _ => 0)) (As := [.int z0, .int (0 : Int32)]) (rest := st) (MX3_whoNow g) rfl rfl rfl (oy_182 qx_cX3_digest_2 7 0 164 rfl rfl rfl rfl) rfl rfl rfl rfl rfl rfl)))
theorem eX3_digest_74 {g : RO} {Q : Ot → Hw → Prop} {w : Hw} {a : Int32} {z0 : Int64} {st : List Value} {k n : Nat} {l0 l1 l2 l3 l4 l5 : Option Value} : WP (MX3_digest g) Q (Prod.mk 74 (Prod.mk (List.cons l0 (List.cons l1 (List.cons l2 (List.cons l3 (List.cons l4 (List.cons l5 List.nil)))))) (Prod.mk (List.cons (Value.int a) (List.cons (Value.long z0) st)) (Prod.mk w (Prod.mk k n))))) = (wt st ≤ 8 ∧ k + 0 ≤ 90 ∧ n + 0 ≤ 520 ∧ WP (MX3_add g) (kx (fun v w' => WP (MX3_digest g) Q (Prod.mk 78 (Prod.mk (List.cons l0 (List.cons l1 (List.cons l2 (List.cons l3 (List.cons l4 (List.cons l5 List.nil)))))) (Prod.mk (v.toList ++ st) (Prod.mk w' (Prod.mk (k + 0) (n + 0))))))) (fun E w' => Q (.inr E) w')) (Prod.mk 0 (Prod.mk (List.cons (Option.some (Value.long z0)) (List.cons none (List.cons (Option.some (Value.long (a.toInt64 : Int64))) (List.cons none List.nil)))) (Prod.mk List.nil (Prod.mk w (Prod.mk 0 0)))))) := Eq.trans (i2l_e rfl (oy_133 qx_cX3_digest_2 10 rfl)) (csS0 (M := (MX3_digest g)) (mc := (fun _ _ => 0)) (ms := (fun _ _ => 0)) (As := [.long z0, .long (a.toInt64 : Int64)]) (rest := st) (MX3_add g) rfl rfl rfl (oy_184 qx_cX3_digest_2 11 0 220 rfl rfl rfl rfl) rfl rfl rfl rfl rfl rfl rfl)
theorem eX3_digest_78 {g : RO} {Q : Ot → Hw → Prop} {w : Hw} {z0 : Int32} {st : List Value} {k n p : Nat} {l1 l2 l4 l5 : Option Value} : WP (MX3_digest g) Q (Prod.mk 78 (Prod.mk (List.cons (Option.some (Value.ref p)) (List.cons l1 (List.cons l2 (List.cons (Option.some (Value.int z0)) (List.cons l4 (List.cons l5 List.nil)))))) (Prod.mk st (Prod.mk w (Prod.mk k n))))) = (go (rd g w p) 7 (fun _ => True) ∧ wt st ≤ 8 ∧ k + 0 ≤ 90 ∧ n + 0 ≤ 520 ∧ WP (MX3_whoNow g) (kx (fun v w' => WP (MX3_digest g) Q (Prod.mk 84 (Prod.mk (List.cons (Option.some (Value.ref p)) (List.cons l1 (List.cons l2 (List.cons (Option.some (Value.int z0)) (List.cons l4 (List.cons l5 List.nil)))))) (Prod.mk (v.toList ++ st) (Prod.mk w' (Prod.mk (k + 0) (n + 0))))))) (fun E w' => Q (.inr E) w')) (Prod.mk 0 (Prod.mk (List.cons (Option.some (Value.ref p)) (List.cons (Option.some (Value.int z0)) (List.cons (Option.some (Value.int (1 : Int32))) (List.cons none (List.cons none List.nil))))) (Prod.mk List.nil (Prod.mk w (Prod.mk 0 0)))))) := Eq.trans (alnR_e rfl (oy_42 qx_cX3_digest_2 14 rfl) rfl) (Eq.trans (iln_e rfl (oy_29 qx_cX3_digest_2 15 rfl) rfl) (Eq.trans (ic_1 rfl (oy_4 qx_cX3_digest_2 16 rfl)) (csV0 (M := (MX3_digest g)) (mc := (fun _ _ => 0)) (ms := (fun _ _ => 0)) (As := [.int z0, .int (1 : Int32)]) (rest := st) (MX3_whoNow g) rfl rfl rfl (oy_182 qx_cX3_digest_2 17 0 164 rfl rfl rfl rfl) rfl rfl rfl rfl rfl rfl)))
theorem eX3_digest_84 {g : RO} {Q : Ot → Hw → Prop} {w : Hw} {a : Int32} {z0 : Int64} {st : List Value} {k n : Nat} {l0 l1 l2 l3 l4 l5 : Option Value} : WP (MX3_digest g) Q (Prod.mk 84 (Prod.mk (List.cons l0 (List.cons l1 (List.cons l2 (List.cons l3 (List.cons l4 (List.cons l5 List.nil)))))) (Prod.mk (List.cons (Value.int a) (List.cons (Value.long z0) st)) (Prod.mk w (Prod.mk k n))))) = (wt st ≤ 8 ∧ k + 0 ≤ 90 ∧ n + 0 ≤ 520 ∧ WP (MX3_add g) (kx (fun v w' => WP (MX3_digest g) Q (Prod.mk 88 (Prod.mk (List.cons l0 (List.cons l1 (List.cons l2 (List.cons l3 (List.cons l4 (List.cons l5 List.nil)))))) (Prod.mk (v.toList ++ st) (Prod.mk w' (Prod.mk (k + 0) (n + 0))))))) (fun E w' => Q (.inr E) w')) (Prod.mk 0 (Prod.mk (List.cons (Option.some (Value.long z0)) (List.cons none (List.cons (Option.some (Value.long (a.toInt64 : Int64))) (List.cons none List.nil)))) (Prod.mk List.nil (Prod.mk w (Prod.mk 0 0)))))) := Eq.trans (i2l_e rfl (oy_133 qx_cX3_digest_2 20 rfl)) (csS0 (M := (MX3_digest g)) (mc := (fun _ _ => 0)) (ms := (fun _ _ => 0)) (As := [.long z0, .long (a.toInt64 : Int64)]) (rest := st) (MX3_add g) rfl rfl rfl (oy_184 qx_cX3_digest_2 21 0 220 rfl rfl rfl rfl) rfl rfl rfl rfl rfl rfl rfl)
theorem eX3_digest_88 {g : RO} {Q : Ot → Hw → Prop} {w : Hw} {a : Int32} {x : Int64} {st : List Value} {k n : Nat} {l0 l1 l2 l4 l5 : Option Value} : WP (MX3_digest g) Q (Prod.mk 88 (Prod.mk (List.cons l0 (List.cons l1 (List.cons l2 (List.cons (Option.some (Value.int a)) (List.cons l4 (List.cons l5 List.nil)))))) (Prod.mk (List.cons (Value.long x) st) (Prod.mk w (Prod.mk k n))))) = WP (MX3_digest g) Q (Prod.mk 35 (Prod.mk (List.cons (nl l0) (List.cons (Option.some (Value.long x)) (List.cons (nl none) (List.cons (Option.some (Value.int (a + 1))) (List.cons l4 (List.cons l5 List.nil)))))) (Prod.mk st (Prod.mk w (Prod.mk k n))))) := Eq.trans (lsn_e rfl (oy_64 qx_cX3_digest_2 24 rfl) rfl rfl) (Eq.trans (Eq.trans (iinc_e (M := (MX3_digest g)) (L := [(nl l0), (Option.some (Value.long x)), none, some (.int a), l4, l5]) (d := 1) rfl (oy_132 qx_cX3_digest_2 25 3 1 rfl rfl rfl rfl) (by decide) rfl) rfl) (goto_e rfl (oy_167 qx_cX3_digest_2 28 255 199 rfl rfl rfl rfl) (by decide)))
theorem eX3_digest_95 {g : RO} {Q : Ot → Hw → Prop} {w : Hw} {st : List Value} {k n : Nat} {l0 l1 l2 l3 l4 l5 : Option Value} : WP (MX3_digest g) Q (Prod.mk 95 (Prod.mk (List.cons l0 (List.cons l1 (List.cons l2 (List.cons l3 (List.cons l4 (List.cons l5 List.nil)))))) (Prod.mk st (Prod.mk w (Prod.mk k n))))) = WP (MX3_digest g) Q (Prod.mk 97 (Prod.mk (List.cons l0 (List.cons l1 (List.cons (nl l2) (List.cons (Option.some (Value.int (0 : Int32))) (List.cons l4 (List.cons l5 List.nil)))))) (Prod.mk st (Prod.mk w (Prod.mk k n))))) := Eq.trans (ic_0 rfl (oy_3 qx_cX3_digest_2 31 rfl)) (isn_e rfl (oy_62 qx_cX3_digest_3 0 rfl) rfl rfl)
theorem eX3_digest_97 {g : RO} {Q : Ot → Hw → Prop} {st : List Value} {w : Hw} {k n : Nat} {a : Int32} {l0 l1 l2 l4 l5 : Option Value} : WP (MX3_digest g) Q (Prod.mk 97 (Prod.mk (List.cons l0 (List.cons l1 (List.cons l2 (List.cons (Option.some (Value.int a)) (List.cons l4 (List.cons l5 List.nil)))))) (Prod.mk st (Prod.mk w (Prod.mk k n))))) = WP (MX3_digest g) Q (Prod.mk 98 (Prod.mk (List.cons l0 (List.cons l1 (List.cons l2 (List.cons (Option.some (Value.int a)) (List.cons l4 (List.cons l5 List.nil)))))) (Prod.mk (List.cons (Value.int a) st) (Prod.mk w (Prod.mk k n))))) := iln_e rfl (oy_29 qx_cX3_digest_3 1 rfl) rfl
theorem eX3_digest_98 {g : RO} {Q : Ot → Hw → Prop} {w : Hw} {a : Int32} {st : List Value} {k n : Nat} {l0 l1 l2 l3 l4 l5 : Option Value} : WP (MX3_digest g) Q (Prod.mk 98 (Prod.mk (List.cons l0 (List.cons l1 (List.cons l2 (List.cons l3 (List.cons l4 (List.cons l5 List.nil)))))) (Prod.mk (List.cons (Value.int a) st) (Prod.mk w (Prod.mk k n))))) = if (6 : Int32) ≤ a then WP (MX3_digest g) Q (Prod.mk 314 (Prod.mk (List.cons l0 (List.cons l1 (List.cons l2 (List.cons l3 (List.cons l4 (List.cons l5 List.nil)))))) (Prod.mk st (Prod.mk w (Prod.mk k n))))) else WP (MX3_digest g) Q (Prod.mk 103 (Prod.mk (List.cons l0 (List.cons l1 (List.cons l2 (List.cons l3 (List.cons l4 (List.cons l5 List.nil)))))) (Prod.mk st (Prod.mk w (Prod.mk k n))))) := Eq.trans (bipush_e rfl (oy_16 qx_cX3_digest_3 2 6 rfl rfl rfl) (by decide)) (icm_e ((6 : Int32) ≤ a) rfl (oy_162 qx_cX3_digest_3 4 0 214 rfl rfl rfl rfl) rfl (by decide))
theorem eX3_digest_103 {g : RO} {Q : Ot → Hw → Prop} {w : Hw} {z0 : Int32} {x : Int64} {st : List Value} {k n p : Nat} {l2 l4 l5 : Option Value} : WP (MX3_digest g) Q (Prod.mk 103 (Prod.mk (List.cons (Option.some (Value.ref p)) (List.cons (Option.some (Value.long x)) (List.cons l2 (List.cons (Option.some (Value.int z0)) (List.cons l4 (List.cons l5 List.nil)))))) (Prod.mk st (Prod.mk w (Prod.mk k n))))) = (go (rd g w p) 7 (fun _ => True) ∧ wt (List.cons (Value.long x) st) ≤ 8 ∧ k + 0 ≤ 90 ∧ n + 0 ≤ 520 ∧ WP (MX3_isBare g) (kx (fun v w' => WP (MX3_digest g) Q (Prod.mk 109 (Prod.mk (List.cons (Option.some (Value.ref p)) (List.cons (Option.some (Value.long x)) (List.cons l2 (List.cons (Option.some (Value.int z0)) (List.cons l4 (List.cons l5 List.nil)))))) (Prod.mk (v.toList ++ (List.cons (Value.long x) st)) (Prod.mk w' (Prod.mk (k + 0) (n + 0))))))) (fun E w' => Q (.inr E) w')) (Prod.mk 0 (Prod.mk (List.cons (Option.some (Value.ref p)) (List.cons (Option.some (Value.int z0)) List.nil)) (Prod.mk List.nil (Prod.mk w (Prod.mk 0 0)))))) := Eq.trans (lln_e rfl (oy_31 qx_cX3_digest_3 7 rfl) rfl) (Eq.trans (alnR_e rfl (oy_42 qx_cX3_digest_3 8 rfl) rfl) (Eq.trans (iln_e rfl (oy_29 qx_cX3_digest_3 9 rfl) rfl) (csV0 (M := (MX3_digest g)) (mc := (fun _ _ => 0)) (ms := (fun _ _ => 0)) (As := [.int z0]) (rest := (List.cons (Value.long x) st)) (MX3_isBare g) rfl rfl rfl (oy_182 qx_cX3_digest_3 10 0 118 rfl rfl rfl rfl) rfl rfl rfl rfl rfl rfl)))
theorem eX3_digest_109 {g : RO} {Q : Ot → Hw → Prop} {st : List Value} {w : Hw} {k n : Nat} {a : Int32} {l0 l1 l2 l3 l4 l5 : Option Value} : WP (MX3_digest g) Q (Prod.mk 109 (Prod.mk (List.cons l0 (List.cons l1 (List.cons l2 (List.cons l3 (List.cons l4 (List.cons l5 List.nil)))))) (Prod.mk (List.cons (Value.int a) st) (Prod.mk w (Prod.mk k n))))) = if a = 0 then WP (MX3_digest g) Q (Prod.mk 112 (Prod.mk (List.cons l0 (List.cons l1 (List.cons l2 (List.cons l3 (List.cons l4 (List.cons l5 List.nil)))))) (Prod.mk st (Prod.mk w (Prod.mk k n))))) else WP (MX3_digest g) Q (Prod.mk 116 (Prod.mk (List.cons l0 (List.cons l1 (List.cons l2 (List.cons l3 (List.cons l4 (List.cons l5 List.nil)))))) (Prod.mk st (Prod.mk w (Prod.mk k n))))) := ifcn_e (a = 0) rfl (oy_154 qx_cX3_digest_3 13 0 7 rfl rfl rfl rfl) rfl (by decide)
theorem eX3_digest_112 {g : RO} {Q : Ot → Hw → Prop} {w : Hw} {st : List Value} {k n : Nat} {l0 l1 l2 l3 l4 l5 : Option Value} : WP (MX3_digest g) Q (Prod.mk 112 (Prod.mk (List.cons l0 (List.cons l1 (List.cons l2 (List.cons l3 (List.cons l4 (List.cons l5 List.nil)))))) (Prod.mk st (Prod.mk w (Prod.mk k n))))) = WP (MX3_digest g) Q (Prod.mk 117 (Prod.mk (List.cons l0 (List.cons l1 (List.cons l2 (List.cons l3 (List.cons l4 (List.cons l5 List.nil)))))) (Prod.mk (List.cons (Value.int 1) st) (Prod.mk w (Prod.mk k n))))) := Eq.trans (ic_1 rfl (oy_4 qx_cX3_digest_3 16 rfl)) (goto_e rfl (oy_167 qx_cX3_digest_3 17 0 4 rfl rfl rfl rfl) (by decide))
theorem eX3_digest_116 {g : RO} {Q : Ot → Hw → Prop} {st : List Value} {w : Hw} {k n : Nat} {l0 l1 l2 l3 l4 l5 : Option Value} : WP (MX3_digest g) Q (Prod.mk 116 (Prod.mk (List.cons l0 (List.cons l1 (List.cons l2 (List.cons l3 (List.cons l4 (List.cons l5 List.nil)))))) (Prod.mk st (Prod.mk w (Prod.mk k n))))) = WP (MX3_digest g) Q (Prod.mk 117 (Prod.mk (List.cons l0 (List.cons l1 (List.cons l2 (List.cons l3 (List.cons l4 (List.cons l5 List.nil)))))) (Prod.mk (List.cons (Value.int 0) st) (Prod.mk w (Prod.mk k n))))) := ic_0 rfl (oy_3 qx_cX3_digest_3 20 rfl)
theorem eX3_digest_117 {g : RO} {Q : Ot → Hw → Prop} {st : List Value} {w : Hw} {k n : Nat} {l0 l1 l2 l3 l4 l5 : Option Value} {z0 : Int32} : WP (MX3_digest g) Q (Prod.mk 117 (Prod.mk (List.cons l0 (List.cons l1 (List.cons l2 (List.cons l3 (List.cons l4 (List.cons l5 List.nil)))))) (Prod.mk (List.cons (Value.int z0) st) (Prod.mk w (Prod.mk k n))))) = (wt st ≤ 8 ∧ k + 0 ≤ 90 ∧ n + 0 ≤ 520 ∧ WP (MX3_one g) (kx (fun v w' => WP (MX3_digest g) Q (Prod.mk 120 (Prod.mk (List.cons l0 (List.cons l1 (List.cons l2 (List.cons l3 (List.cons l4 (List.cons l5 List.nil)))))) (Prod.mk (v.toList ++ st) (Prod.mk w' (Prod.mk (k + 0) (n + 0))))))) (fun E w' => Q (.inr E) w')) (Prod.mk 0 (Prod.mk (List.cons (Option.some (Value.int z0)) List.nil) (Prod.mk List.nil (Prod.mk w (Prod.mk 0 0)))))) := csS0 (M := (MX3_digest g)) (mc := (fun _ _ => 0)) (ms := (fun _ _ => 0)) (As := [.int z0]) (rest := st) (MX3_one g) rfl rfl rfl (oy_184 qx_cX3_digest_3 21 0 92 rfl rfl rfl rfl) rfl rfl rfl rfl rfl rfl rfl
theorem eX3_digest_120 {g : RO} {Q : Ot → Hw → Prop} {w : Hw} {a : Int32} {z0 : Int64} {st : List Value} {k n : Nat} {l0 l1 l2 l3 l4 l5 : Option Value} : WP (MX3_digest g) Q (Prod.mk 120 (Prod.mk (List.cons l0 (List.cons l1 (List.cons l2 (List.cons l3 (List.cons l4 (List.cons l5 List.nil)))))) (Prod.mk (List.cons (Value.int a) (List.cons (Value.long z0) st)) (Prod.mk w (Prod.mk k n))))) = (wt st ≤ 8 ∧ k + 0 ≤ 90 ∧ n + 0 ≤ 520 ∧ WP (MX3_add g) (kx (fun v w' => WP (MX3_digest g) Q (Prod.mk 124 (Prod.mk (List.cons l0 (List.cons l1 (List.cons l2 (List.cons l3 (List.cons l4 (List.cons l5 List.nil)))))) (Prod.mk (v.toList ++ st) (Prod.mk w' (Prod.mk (k + 0) (n + 0))))))) (fun E w' => Q (.inr E) w')) (Prod.mk 0 (Prod.mk (List.cons (Option.some (Value.long z0)) (List.cons none (List.cons (Option.some (Value.long (a.toInt64 : Int64))) (List.cons none List.nil)))) (Prod.mk List.nil (Prod.mk w (Prod.mk 0 0)))))) := Eq.trans (i2l_e rfl (oy_133 qx_cX3_digest_3 24 rfl)) (csS0 (M := (MX3_digest g)) (mc := (fun _ _ => 0)) (ms := (fun _ _ => 0)) (As := [.long z0, .long (a.toInt64 : Int64)]) (rest := st) (MX3_add g) rfl rfl rfl (oy_184 qx_cX3_digest_3 25 0 220 rfl rfl rfl rfl) rfl rfl rfl rfl rfl rfl rfl)
theorem eX3_digest_124 {g : RO} {Q : Ot → Hw → Prop} {st : List Value} {w : Hw} {k n : Nat} {x : Int64} {l0 l1 l2 l3 l4 l5 : Option Value} : WP (MX3_digest g) Q (Prod.mk 124 (Prod.mk (List.cons l0 (List.cons l1 (List.cons l2 (List.cons l3 (List.cons l4 (List.cons l5 List.nil)))))) (Prod.mk (List.cons (Value.long x) st) (Prod.mk w (Prod.mk k n))))) = WP (MX3_digest g) Q (Prod.mk 125 (Prod.mk (List.cons (nl l0) (List.cons (Option.some (Value.long x)) (List.cons none (List.cons l3 (List.cons l4 (List.cons l5 List.nil)))))) (Prod.mk st (Prod.mk w (Prod.mk k n))))) := lsn_e rfl (oy_64 qx_cX3_digest_3 28 rfl) rfl rfl
theorem eX3_digest_125 {g : RO} {Q : Ot → Hw → Prop} {w : Hw} {z0 : Int32} {st : List Value} {k n p : Nat} {l1 l2 l4 l5 : Option Value} : WP (MX3_digest g) Q (Prod.mk 125 (Prod.mk (List.cons (Option.some (Value.ref p)) (List.cons l1 (List.cons l2 (List.cons (Option.some (Value.int z0)) (List.cons l4 (List.cons l5 List.nil)))))) (Prod.mk st (Prod.mk w (Prod.mk k n))))) = (go (rd g w p) 7 (fun _ => True) ∧ wt st ≤ 8 ∧ k + 0 ≤ 90 ∧ n + 0 ≤ 520 ∧ WP (MX3_isBare g) (kx (fun v w' => WP (MX3_digest g) Q (Prod.mk 130 (Prod.mk (List.cons (Option.some (Value.ref p)) (List.cons l1 (List.cons l2 (List.cons (Option.some (Value.int z0)) (List.cons l4 (List.cons l5 List.nil)))))) (Prod.mk (v.toList ++ st) (Prod.mk w' (Prod.mk (k + 0) (n + 0))))))) (fun E w' => Q (.inr E) w')) (Prod.mk 0 (Prod.mk (List.cons (Option.some (Value.ref p)) (List.cons (Option.some (Value.int z0)) List.nil)) (Prod.mk List.nil (Prod.mk w (Prod.mk 0 0)))))) := Eq.trans (alnR_e rfl (oy_42 qx_cX3_digest_3 29 rfl) rfl) (Eq.trans (iln_e rfl (oy_29 qx_cX3_digest_3 30 rfl) rfl) (csV0 (M := (MX3_digest g)) (mc := (fun _ _ => 0)) (ms := (fun _ _ => 0)) (As := [.int z0]) (rest := st) (MX3_isBare g) rfl rfl rfl (oy_182 qx_cX3_digest_3 31 0 118 rfl rfl rfl rfl) rfl rfl rfl rfl rfl rfl))
theorem eX3_digest_130 {g : RO} {Q : Ot → Hw → Prop} {st : List Value} {w : Hw} {k n : Nat} {a : Int32} {l0 l1 l2 l3 l4 l5 : Option Value} : WP (MX3_digest g) Q (Prod.mk 130 (Prod.mk (List.cons l0 (List.cons l1 (List.cons l2 (List.cons l3 (List.cons l4 (List.cons l5 List.nil)))))) (Prod.mk (List.cons (Value.int a) st) (Prod.mk w (Prod.mk k n))))) = if a = 0 then WP (MX3_digest g) Q (Prod.mk 136 (Prod.mk (List.cons l0 (List.cons l1 (List.cons l2 (List.cons l3 (List.cons l4 (List.cons l5 List.nil)))))) (Prod.mk st (Prod.mk w (Prod.mk k n))))) else WP (MX3_digest g) Q (Prod.mk 133 (Prod.mk (List.cons l0 (List.cons l1 (List.cons l2 (List.cons l3 (List.cons l4 (List.cons l5 List.nil)))))) (Prod.mk st (Prod.mk w (Prod.mk k n))))) := ifc_e (a = 0) rfl (oy_153 qx_cX3_digest_4 2 0 6 rfl rfl rfl rfl) rfl (by decide)
theorem eX3_digest_133 {g : RO} {Q : Ot → Hw → Prop} {st : List Value} {w : Hw} {k n : Nat} {l0 l1 l2 l3 l4 l5 : Option Value} : WP (MX3_digest g) Q (Prod.mk 133 (Prod.mk (List.cons l0 (List.cons l1 (List.cons l2 (List.cons l3 (List.cons l4 (List.cons l5 List.nil)))))) (Prod.mk st (Prod.mk w (Prod.mk k n))))) = WP (MX3_digest g) Q (Prod.mk 308 (Prod.mk (List.cons l0 (List.cons l1 (List.cons l2 (List.cons l3 (List.cons l4 (List.cons l5 List.nil)))))) (Prod.mk st (Prod.mk w (Prod.mk k n))))) := goto_e rfl (oy_167 qx_cX3_digest_4 5 0 175 rfl rfl rfl rfl) (by decide)
theorem eX3_digest_136 {g : RO} {Q : Ot → Hw → Prop} {w : Hw} {st : List Value} {k n p : Nat} {l1 l2 l3 l4 l5 : Option Value} : WP (MX3_digest g) Q (Prod.mk 136 (Prod.mk (List.cons (Option.some (Value.ref p)) (List.cons l1 (List.cons l2 (List.cons l3 (List.cons l4 (List.cons l5 List.nil)))))) (Prod.mk st (Prod.mk w (Prod.mk k n))))) = go (rd g w p) 7 fun fs => ∃ v, fs[2]? = some v ∧ WP (MX3_digest g) Q (Prod.mk 140 (Prod.mk (List.cons (Option.some (Value.ref p)) (List.cons l1 (List.cons l2 (List.cons l3 (List.cons l4 (List.cons l5 List.nil)))))) (Prod.mk (List.cons v st) (Prod.mk w (Prod.mk k n))))) := Eq.trans (alnR_e rfl (oy_42 qx_cX3_digest_4 8 rfl) rfl) (get_e rfl (oy_180 qx_cX3_digest_4 9 0 16 rfl rfl rfl rfl) rfl)
theorem eX3_digest_140 {g : RO} {Q : Ot → Hw → Prop} {st : List Value} {w : Hw} {k n : Nat} {a : Int32} {l0 l1 l2 l4 l5 : Option Value} : WP (MX3_digest g) Q (Prod.mk 140 (Prod.mk (List.cons l0 (List.cons l1 (List.cons l2 (List.cons (Option.some (Value.int a)) (List.cons l4 (List.cons l5 List.nil)))))) (Prod.mk st (Prod.mk w (Prod.mk k n))))) = WP (MX3_digest g) Q (Prod.mk 141 (Prod.mk (List.cons l0 (List.cons l1 (List.cons l2 (List.cons (Option.some (Value.int a)) (List.cons l4 (List.cons l5 List.nil)))))) (Prod.mk (List.cons (Value.int a) st) (Prod.mk w (Prod.mk k n))))) := iln_e rfl (oy_29 qx_cX3_digest_4 12 rfl) rfl
theorem eX3_digest_141 {g : RO} {Q : Ot → Hw → Prop} {st : List Value} {w : Hw} {k n p : Nat} {l0 l1 l2 l3 l4 l5 : Option Value} {z0 : Int32} : WP (MX3_digest g) Q (Prod.mk 141 (Prod.mk (List.cons l0 (List.cons l1 (List.cons l2 (List.cons l3 (List.cons l4 (List.cons l5 List.nil)))))) (Prod.mk (List.cons (Value.int z0) (List.cons (Value.ref p) st)) (Prod.mk w (Prod.mk k n))))) = (go (rd g w p) 3 (fun _ => True) ∧ wt st ≤ 8 ∧ k + 0 ≤ 90 ∧ n + 0 ≤ 520 ∧ WP (MJx4a65c_get_915e3 g) (kx (fun v w' => WP (MX3_digest g) Q (Prod.mk 144 (Prod.mk (List.cons l0 (List.cons l1 (List.cons l2 (List.cons l3 (List.cons l4 (List.cons l5 List.nil)))))) (Prod.mk (v.toList ++ st) (Prod.mk w' (Prod.mk (k + 0) (n + 0))))))) (fun E w' => Q (.inr E) w')) (Prod.mk 0 (Prod.mk (List.cons (Option.some (Value.ref p)) (List.cons (Option.some (Value.int z0)) List.nil)) (Prod.mk List.nil (Prod.mk w (Prod.mk 0 0)))))) := csV0 (M := (MX3_digest g)) (mc := (fun _ _ => 0)) (ms := (fun _ _ => 0)) (As := [.int z0]) (rest := st) (MJx4a65c_get_915e3 g) rfl rfl rfl (oy_182 qx_cX3_digest_4 13 0 42 rfl rfl rfl rfl) rfl rfl rfl rfl rfl rfl
theorem eX3_digest_144R {g : RO} {Q : Ot → Hw → Prop} {st : List Value} {w : Hw} {k n p : Nat} {l0 l1 l2 l3 l4 l5 : Option Value} : WP (MX3_digest g) Q (Prod.mk 144 (Prod.mk (List.cons l0 (List.cons l1 (List.cons l2 (List.cons l3 (List.cons l4 (List.cons l5 List.nil)))))) (Prod.mk (List.cons (Value.ref p) st) (Prod.mk w (Prod.mk k n))))) = ((∃ x, w p = Option.some (.inl (0, x))) ∧ WP (MX3_digest g) Q (Prod.mk 147 (Prod.mk (List.cons l0 (List.cons l1 (List.cons l2 (List.cons l3 (List.cons l4 (List.cons l5 List.nil)))))) (Prod.mk (List.cons (Value.ref p) st) (Prod.mk w (Prod.mk k n)))))) := castR_e rfl (oy_192 qx_cX3_digest_4 16 0 125 rfl rfl rfl rfl) rfl
theorem eX3_digest_147 {g : RO} {Q : Ot → Hw → Prop} {w : Hw} {st : List Value} {k n p : Nat} {l0 l1 l2 l3 l4 l5 : Option Value} : WP (MX3_digest g) Q (Prod.mk 147 (Prod.mk (List.cons l0 (List.cons l1 (List.cons l2 (List.cons l3 (List.cons l4 (List.cons l5 List.nil)))))) (Prod.mk (List.cons (Value.ref p) st) (Prod.mk w (Prod.mk k n))))) = WP (MX3_digest g) Q (Prod.mk 152 (Prod.mk (List.cons l0 (List.cons l1 (List.cons l2 (List.cons (nl l3) (List.cons (nl (Option.some (Value.ref p))) (List.cons (Option.some (Value.int (0 : Int32))) List.nil)))))) (Prod.mk st (Prod.mk w (Prod.mk k n))))) := Eq.trans (asR_e rfl (oy_58 qx_cX3_digest_4 19 4 rfl rfl) rfl rfl) (Eq.trans (ic_0 rfl (oy_3 qx_cX3_digest_4 21 rfl)) (is_e rfl (oy_54 qx_cX3_digest_4 22 5 rfl rfl) rfl rfl))
theorem eX3_digest_152 {g : RO} {Q : Ot → Hw → Prop} {st : List Value} {w : Hw} {k n : Nat} {a : Int32} {l0 l1 l2 l3 l4 : Option Value} : WP (MX3_digest g) Q (Prod.mk 152 (Prod.mk (List.cons l0 (List.cons l1 (List.cons l2 (List.cons l3 (List.cons l4 (List.cons (Option.some (Value.int a)) List.nil)))))) (Prod.mk st (Prod.mk w (Prod.mk k n))))) = WP (MX3_digest g) Q (Prod.mk 154 (Prod.mk (List.cons l0 (List.cons l1 (List.cons l2 (List.cons l3 (List.cons l4 (List.cons (Option.some (Value.int a)) List.nil)))))) (Prod.mk (List.cons (Value.int a) st) (Prod.mk w (Prod.mk k n))))) := il_e rfl (oy_21 qx_cX3_digest_4 24 5 rfl rfl) rfl
theorem eX3_digest_154 {g : RO} {Q : Ot → Hw → Prop} {w : Hw} {a : Int32} {st : List Value} {k n : Nat} {l0 l1 l2 l3 l4 l5 : Option Value} : WP (MX3_digest g) Q (Prod.mk 154 (Prod.mk (List.cons l0 (List.cons l1 (List.cons l2 (List.cons l3 (List.cons l4 (List.cons l5 List.nil)))))) (Prod.mk (List.cons (Value.int a) st) (Prod.mk w (Prod.mk k n))))) = if (4 : Int32) ≤ a then WP (MX3_digest g) Q (Prod.mk 214 (Prod.mk (List.cons l0 (List.cons l1 (List.cons l2 (List.cons l3 (List.cons l4 (List.cons l5 List.nil)))))) (Prod.mk st (Prod.mk w (Prod.mk k n))))) else WP (MX3_digest g) Q (Prod.mk 158 (Prod.mk (List.cons l0 (List.cons l1 (List.cons l2 (List.cons l3 (List.cons l4 (List.cons l5 List.nil)))))) (Prod.mk st (Prod.mk w (Prod.mk k n))))) := Eq.trans (ic_4 rfl (oy_7 qx_cX3_digest_4 26 rfl)) (icm_e ((4 : Int32) ≤ a) rfl (oy_162 qx_cX3_digest_4 27 0 59 rfl rfl rfl rfl) rfl (by decide))
theorem eX3_digest_158 {g : RO} {Q : Ot → Hw → Prop} {w : Hw} {a : Int32} {x : Int64} {st : List Value} {k n p : Nat} {l0 l2 l3 : Option Value} : WP (MX3_digest g) Q (Prod.mk 158 (Prod.mk (List.cons l0 (List.cons (Option.some (Value.long x)) (List.cons l2 (List.cons l3 (List.cons (Option.some (Value.ref p)) (List.cons (Option.some (Value.int a)) List.nil)))))) (Prod.mk st (Prod.mk w (Prod.mk k n))))) = gl (rd g w p) 0 fun N f => vp_in a N ∧ WP (MX3_digest g) Q (Prod.mk 164 (Prod.mk (List.cons l0 (List.cons (Option.some (Value.long x)) (List.cons l2 (List.cons l3 (List.cons (Option.some (Value.ref p)) (List.cons (Option.some (Value.int a)) List.nil)))))) (Prod.mk (List.cons (Value.long (f a.toNatClampNeg)) (List.cons (Value.long x) st)) (Prod.mk w (Prod.mk k n))))) := Eq.trans (lln_e rfl (oy_31 qx_cX3_digest_4 30 rfl) rfl) (Eq.trans (alR_e rfl (oy_25 qx_cX3_digest_4 31 4 rfl rfl) rfl) (Eq.trans (il_e rfl (oy_21 qx_cX3_digest_5 1 5 rfl rfl) rfl) (laload_e rfl (oy_47 qx_cX3_digest_5 3 rfl))))
theorem eX3_digest_164 {g : RO} {Q : Ot → Hw → Prop} {st : List Value} {w : Hw} {k n : Nat} {l0 l1 l2 l3 l4 l5 : Option Value} {z0 : Int64} : WP (MX3_digest g) Q (Prod.mk 164 (Prod.mk (List.cons l0 (List.cons l1 (List.cons l2 (List.cons l3 (List.cons l4 (List.cons l5 List.nil)))))) (Prod.mk (List.cons (Value.long z0) st) (Prod.mk w (Prod.mk k n))))) = (wt st ≤ 8 ∧ k + 0 ≤ 90 ∧ n + 0 ≤ 520 ∧ WP (MX3_high g) (kx (fun v w' => WP (MX3_digest g) Q (Prod.mk 167 (Prod.mk (List.cons l0 (List.cons l1 (List.cons l2 (List.cons l3 (List.cons l4 (List.cons l5 List.nil)))))) (Prod.mk (v.toList ++ st) (Prod.mk w' (Prod.mk (k + 0) (n + 0))))))) (fun E w' => Q (.inr E) w')) (Prod.mk 0 (Prod.mk (List.cons (Option.some (Value.long z0)) (List.cons none List.nil)) (Prod.mk List.nil (Prod.mk w (Prod.mk 0 0)))))) := csS0 (M := (MX3_digest g)) (mc := (fun _ _ => 0)) (ms := (fun _ _ => 0)) (As := [.long z0]) (rest := st) (MX3_high g) rfl rfl rfl (oy_184 qx_cX3_digest_5 4 0 57 rfl rfl rfl rfl) rfl rfl rfl rfl rfl rfl rfl
theorem eX3_digest_167 {g : RO} {Q : Ot → Hw → Prop} {w : Hw} {a : Int32} {z0 : Int64} {st : List Value} {k n : Nat} {l0 l1 l2 l3 l4 l5 : Option Value} : WP (MX3_digest g) Q (Prod.mk 167 (Prod.mk (List.cons l0 (List.cons l1 (List.cons l2 (List.cons l3 (List.cons l4 (List.cons l5 List.nil)))))) (Prod.mk (List.cons (Value.int a) (List.cons (Value.long z0) st)) (Prod.mk w (Prod.mk k n))))) = (wt st ≤ 8 ∧ k + 0 ≤ 90 ∧ n + 0 ≤ 520 ∧ WP (MX3_add g) (kx (fun v w' => WP (MX3_digest g) Q (Prod.mk 171 (Prod.mk (List.cons l0 (List.cons l1 (List.cons l2 (List.cons l3 (List.cons l4 (List.cons l5 List.nil)))))) (Prod.mk (v.toList ++ st) (Prod.mk w' (Prod.mk (k + 0) (n + 0))))))) (fun E w' => Q (.inr E) w')) (Prod.mk 0 (Prod.mk (List.cons (Option.some (Value.long z0)) (List.cons none (List.cons (Option.some (Value.long (a.toInt64 : Int64))) (List.cons none List.nil)))) (Prod.mk List.nil (Prod.mk w (Prod.mk 0 0)))))) := Eq.trans (i2l_e rfl (oy_133 qx_cX3_digest_5 7 rfl)) (csS0 (M := (MX3_digest g)) (mc := (fun _ _ => 0)) (ms := (fun _ _ => 0)) (As := [.long z0, .long (a.toInt64 : Int64)]) (rest := st) (MX3_add g) rfl rfl rfl (oy_184 qx_cX3_digest_5 8 0 220 rfl rfl rfl rfl) rfl rfl rfl rfl rfl rfl rfl)
theorem eX3_digest_171 {g : RO} {Q : Ot → Hw → Prop} {w : Hw} {a : Int32} {st : List Value} {k n p : Nat} {l0 l1 l2 l3 : Option Value} : WP (MX3_digest g) Q (Prod.mk 171 (Prod.mk (List.cons l0 (List.cons l1 (List.cons l2 (List.cons l3 (List.cons (Option.some (Value.ref p)) (List.cons (Option.some (Value.int a)) List.nil)))))) (Prod.mk st (Prod.mk w (Prod.mk k n))))) = gl (rd g w p) 0 fun N f => vp_in a N ∧ WP (MX3_digest g) Q (Prod.mk 176 (Prod.mk (List.cons l0 (List.cons l1 (List.cons l2 (List.cons l3 (List.cons (Option.some (Value.ref p)) (List.cons (Option.some (Value.int a)) List.nil)))))) (Prod.mk (List.cons (Value.long (f a.toNatClampNeg)) st) (Prod.mk w (Prod.mk k n))))) := Eq.trans (alR_e rfl (oy_25 qx_cX3_digest_5 11 4 rfl rfl) rfl) (Eq.trans (il_e rfl (oy_21 qx_cX3_digest_5 13 5 rfl rfl) rfl) (laload_e rfl (oy_47 qx_cX3_digest_5 15 rfl)))
theorem eX3_digest_176 {g : RO} {Q : Ot → Hw → Prop} {st : List Value} {w : Hw} {k n : Nat} {l0 l1 l2 l3 l4 l5 : Option Value} {z0 : Int64} : WP (MX3_digest g) Q (Prod.mk 176 (Prod.mk (List.cons l0 (List.cons l1 (List.cons l2 (List.cons l3 (List.cons l4 (List.cons l5 List.nil)))))) (Prod.mk (List.cons (Value.long z0) st) (Prod.mk w (Prod.mk k n))))) = (wt st ≤ 8 ∧ k + 0 ≤ 90 ∧ n + 0 ≤ 520 ∧ WP (MX3_low g) (kx (fun v w' => WP (MX3_digest g) Q (Prod.mk 179 (Prod.mk (List.cons l0 (List.cons l1 (List.cons l2 (List.cons l3 (List.cons l4 (List.cons l5 List.nil)))))) (Prod.mk (v.toList ++ st) (Prod.mk w' (Prod.mk (k + 0) (n + 0))))))) (fun E w' => Q (.inr E) w')) (Prod.mk 0 (Prod.mk (List.cons (Option.some (Value.long z0)) (List.cons none (List.cons none (List.cons none List.nil)))) (Prod.mk List.nil (Prod.mk w (Prod.mk 0 0)))))) := csS0 (M := (MX3_digest g)) (mc := (fun _ _ => 0)) (ms := (fun _ _ => 0)) (As := [.long z0]) (rest := st) (MX3_low g) rfl rfl rfl (oy_184 qx_cX3_digest_5 16 0 61 rfl rfl rfl rfl) rfl rfl rfl rfl rfl rfl rfl
theorem eX3_digest_179 {g : RO} {Q : Ot → Hw → Prop} {w : Hw} {a : Int32} {z0 : Int64} {st : List Value} {k n : Nat} {l0 l1 l2 l3 l4 l5 : Option Value} : WP (MX3_digest g) Q (Prod.mk 179 (Prod.mk (List.cons l0 (List.cons l1 (List.cons l2 (List.cons l3 (List.cons l4 (List.cons l5 List.nil)))))) (Prod.mk (List.cons (Value.int a) (List.cons (Value.long z0) st)) (Prod.mk w (Prod.mk k n))))) = (wt st ≤ 8 ∧ k + 0 ≤ 90 ∧ n + 0 ≤ 520 ∧ WP (MX3_add g) (kx (fun v w' => WP (MX3_digest g) Q (Prod.mk 183 (Prod.mk (List.cons l0 (List.cons l1 (List.cons l2 (List.cons l3 (List.cons l4 (List.cons l5 List.nil)))))) (Prod.mk (v.toList ++ st) (Prod.mk w' (Prod.mk (k + 0) (n + 0))))))) (fun E w' => Q (.inr E) w')) (Prod.mk 0 (Prod.mk (List.cons (Option.some (Value.long z0)) (List.cons none (List.cons (Option.some (Value.long (a.toInt64 : Int64))) (List.cons none List.nil)))) (Prod.mk List.nil (Prod.mk w (Prod.mk 0 0)))))) := Eq.trans (i2l_e rfl (oy_133 qx_cX3_digest_5 19 rfl)) (csS0 (M := (MX3_digest g)) (mc := (fun _ _ => 0)) (ms := (fun _ _ => 0)) (As := [.long z0, .long (a.toInt64 : Int64)]) (rest := st) (MX3_add g) rfl rfl rfl (oy_184 qx_cX3_digest_5 20 0 220 rfl rfl rfl rfl) rfl rfl rfl rfl rfl rfl rfl)
theorem eX3_digest_183 {g : RO} {Q : Ot → Hw → Prop} {w : Hw} {z1 : Int32} {st : List Value} {k n z0 : Nat} {l0 l1 l2 l3 : Option Value} : WP (MX3_digest g) Q (Prod.mk 183 (Prod.mk (List.cons l0 (List.cons l1 (List.cons l2 (List.cons l3 (List.cons (Option.some (Value.ref z0)) (List.cons (Option.some (Value.int z1)) List.nil)))))) (Prod.mk st (Prod.mk w (Prod.mk k n))))) = (wt st ≤ 8 ∧ k + 0 ≤ 90 ∧ n + 0 ≤ 520 ∧ WP (MX3_aroundNow g) (kx (fun v w' => WP (MX3_digest g) Q (Prod.mk 191 (Prod.mk (List.cons l0 (List.cons l1 (List.cons l2 (List.cons l3 (List.cons (Option.some (Value.ref z0)) (List.cons (Option.some (Value.int z1)) List.nil)))))) (Prod.mk (v.toList ++ st) (Prod.mk w' (Prod.mk (k + 0) (n + 0))))))) (fun E w' => Q (.inr E) w')) (Prod.mk 0 (Prod.mk (List.cons (Option.some (Value.ref z0)) (List.cons (Option.some (Value.int z1)) (List.cons (Option.some (Value.int (0 : Int32))) (List.cons none (List.cons none List.nil))))) (Prod.mk List.nil (Prod.mk w (Prod.mk 0 0)))))) := Eq.trans (alR_e rfl (oy_25 qx_cX3_digest_5 23 4 rfl rfl) rfl) (Eq.trans (il_e rfl (oy_21 qx_cX3_digest_5 25 5 rfl rfl) rfl) (Eq.trans (ic_0 rfl (oy_3 qx_cX3_digest_5 27 rfl)) (csS0 (M := (MX3_digest g)) (mc := (fun _ _ => 0)) (ms := (fun _ _ => 0)) (As := [.ref z0, .int z1, .int (0 : Int32)]) (rest := st) (MX3_aroundNow g) rfl rfl rfl (oy_184 qx_cX3_digest_5 28 0 160 rfl rfl rfl rfl) rfl rfl rfl rfl rfl rfl rfl)))
theorem eX3_digest_191 {g : RO} {Q : Ot → Hw → Prop} {w : Hw} {a : Int32} {z0 : Int64} {st : List Value} {k n : Nat} {l0 l1 l2 l3 l4 l5 : Option Value} : WP (MX3_digest g) Q (Prod.mk 191 (Prod.mk (List.cons l0 (List.cons l1 (List.cons l2 (List.cons l3 (List.cons l4 (List.cons l5 List.nil)))))) (Prod.mk (List.cons (Value.int a) (List.cons (Value.long z0) st)) (Prod.mk w (Prod.mk k n))))) = (wt st ≤ 8 ∧ k + 0 ≤ 90 ∧ n + 0 ≤ 520 ∧ WP (MX3_add g) (kx (fun v w' => WP (MX3_digest g) Q (Prod.mk 195 (Prod.mk (List.cons l0 (List.cons l1 (List.cons l2 (List.cons l3 (List.cons l4 (List.cons l5 List.nil)))))) (Prod.mk (v.toList ++ st) (Prod.mk w' (Prod.mk (k + 0) (n + 0))))))) (fun E w' => Q (.inr E) w')) (Prod.mk 0 (Prod.mk (List.cons (Option.some (Value.long z0)) (List.cons none (List.cons (Option.some (Value.long (a.toInt64 : Int64))) (List.cons none List.nil)))) (Prod.mk List.nil (Prod.mk w (Prod.mk 0 0)))))) := Eq.trans (i2l_e rfl (oy_133 qx_cX3_digest_5 31 rfl)) (csS0 (M := (MX3_digest g)) (mc := (fun _ _ => 0)) (ms := (fun _ _ => 0)) (As := [.long z0, .long (a.toInt64 : Int64)]) (rest := st) (MX3_add g) rfl rfl rfl (oy_184 qx_cX3_digest_6 0 0 220 rfl rfl rfl rfl) rfl rfl rfl rfl rfl rfl rfl)
theorem eX3_digest_195 {g : RO} {Q : Ot → Hw → Prop} {w : Hw} {z1 : Int32} {st : List Value} {k n z0 : Nat} {l0 l1 l2 l3 : Option Value} : WP (MX3_digest g) Q (Prod.mk 195 (Prod.mk (List.cons l0 (List.cons l1 (List.cons l2 (List.cons l3 (List.cons (Option.some (Value.ref z0)) (List.cons (Option.some (Value.int z1)) List.nil)))))) (Prod.mk st (Prod.mk w (Prod.mk k n))))) = (wt st ≤ 8 ∧ k + 0 ≤ 90 ∧ n + 0 ≤ 520 ∧ WP (MX3_aroundNow g) (kx (fun v w' => WP (MX3_digest g) Q (Prod.mk 203 (Prod.mk (List.cons l0 (List.cons l1 (List.cons l2 (List.cons l3 (List.cons (Option.some (Value.ref z0)) (List.cons (Option.some (Value.int z1)) List.nil)))))) (Prod.mk (v.toList ++ st) (Prod.mk w' (Prod.mk (k + 0) (n + 0))))))) (fun E w' => Q (.inr E) w')) (Prod.mk 0 (Prod.mk (List.cons (Option.some (Value.ref z0)) (List.cons (Option.some (Value.int z1)) (List.cons (Option.some (Value.int (1 : Int32))) (List.cons none (List.cons none List.nil))))) (Prod.mk List.nil (Prod.mk w (Prod.mk 0 0)))))) := Eq.trans (alR_e rfl (oy_25 qx_cX3_digest_6 3 4 rfl rfl) rfl) (Eq.trans (il_e rfl (oy_21 qx_cX3_digest_6 5 5 rfl rfl) rfl) (Eq.trans (ic_1 rfl (oy_4 qx_cX3_digest_6 7 rfl)) (csS0 (M := (MX3_digest g)) (mc := (fun _ _ => 0)) (ms := (fun _ _ => 0)) (As := [.ref z0, .int z1, .int (1 : Int32)]) (rest := st) (MX3_aroundNow g) rfl rfl rfl (oy_184 qx_cX3_digest_6 8 0 160 rfl rfl rfl rfl) rfl rfl rfl rfl rfl rfl rfl)))
theorem eX3_digest_203 {g : RO} {Q : Ot → Hw → Prop} {w : Hw} {a : Int32} {z0 : Int64} {st : List Value} {k n : Nat} {l0 l1 l2 l3 l4 l5 : Option Value} : WP (MX3_digest g) Q (Prod.mk 203 (Prod.mk (List.cons l0 (List.cons l1 (List.cons l2 (List.cons l3 (List.cons l4 (List.cons l5 List.nil)))))) (Prod.mk (List.cons (Value.int a) (List.cons (Value.long z0) st)) (Prod.mk w (Prod.mk k n))))) = (wt st ≤ 8 ∧ k + 0 ≤ 90 ∧ n + 0 ≤ 520 ∧ WP (MX3_add g) (kx (fun v w' => WP (MX3_digest g) Q (Prod.mk 207 (Prod.mk (List.cons l0 (List.cons l1 (List.cons l2 (List.cons l3 (List.cons l4 (List.cons l5 List.nil)))))) (Prod.mk (v.toList ++ st) (Prod.mk w' (Prod.mk (k + 0) (n + 0))))))) (fun E w' => Q (.inr E) w')) (Prod.mk 0 (Prod.mk (List.cons (Option.some (Value.long z0)) (List.cons none (List.cons (Option.some (Value.long (a.toInt64 : Int64))) (List.cons none List.nil)))) (Prod.mk List.nil (Prod.mk w (Prod.mk 0 0)))))) := Eq.trans (i2l_e rfl (oy_133 qx_cX3_digest_6 11 rfl)) (csS0 (M := (MX3_digest g)) (mc := (fun _ _ => 0)) (ms := (fun _ _ => 0)) (As := [.long z0, .long (a.toInt64 : Int64)]) (rest := st) (MX3_add g) rfl rfl rfl (oy_184 qx_cX3_digest_6 12 0 220 rfl rfl rfl rfl) rfl rfl rfl rfl rfl rfl rfl)
theorem eX3_digest_207 {g : RO} {Q : Ot → Hw → Prop} {w : Hw} {a : Int32} {x : Int64} {st : List Value} {k n : Nat} {l0 l1 l2 l3 l4 : Option Value} : WP (MX3_digest g) Q (Prod.mk 207 (Prod.mk (List.cons l0 (List.cons l1 (List.cons l2 (List.cons l3 (List.cons l4 (List.cons (Option.some (Value.int a)) List.nil)))))) (Prod.mk (List.cons (Value.long x) st) (Prod.mk w (Prod.mk k n))))) = WP (MX3_digest g) Q (Prod.mk 152 (Prod.mk (List.cons (nl l0) (List.cons (Option.some (Value.long x)) (List.cons none (List.cons l3 (List.cons (nl l4) (List.cons (Option.some (Value.int (a + 1))) List.nil)))))) (Prod.mk st (Prod.mk w (Prod.mk k n))))) := Eq.trans (lsn_e rfl (oy_64 qx_cX3_digest_6 15 rfl) rfl rfl) (Eq.trans (Eq.trans (iinc_e (M := (MX3_digest g)) (L := [(nl l0), (Option.some (Value.long x)), none, l3, l4, some (.int a)]) (d := 1) rfl (oy_132 qx_cX3_digest_6 16 5 1 rfl rfl rfl rfl) (by decide) rfl) rfl) (goto_e rfl (oy_167 qx_cX3_digest_6 19 255 197 rfl rfl rfl rfl) (by decide)))
theorem eX3_digest_214 {g : RO} {Q : Ot → Hw → Prop} {w : Hw} {x : Int64} {st : List Value} {k n z0 : Nat} {l0 l2 l3 l5 : Option Value} : WP (MX3_digest g) Q (Prod.mk 214 (Prod.mk (List.cons l0 (List.cons (Option.some (Value.long x)) (List.cons l2 (List.cons l3 (List.cons (Option.some (Value.ref z0)) (List.cons l5 List.nil)))))) (Prod.mk st (Prod.mk w (Prod.mk k n))))) = (wt (List.cons (Value.long x) st) ≤ 8 ∧ k + 0 ≤ 90 ∧ n + 0 ≤ 520 ∧ WP (MX3_fixed g) (kx (fun v w' => WP (MX3_digest g) Q (Prod.mk 220 (Prod.mk (List.cons l0 (List.cons (Option.some (Value.long x)) (List.cons l2 (List.cons l3 (List.cons (Option.some (Value.ref z0)) (List.cons l5 List.nil)))))) (Prod.mk (v.toList ++ (List.cons (Value.long x) st)) (Prod.mk w' (Prod.mk (k + 0) (n + 0))))))) (fun E w' => Q (.inr E) w')) (Prod.mk 0 (Prod.mk (List.cons (Option.some (Value.ref z0)) List.nil) (Prod.mk List.nil (Prod.mk w (Prod.mk 0 0)))))) := Eq.trans (lln_e rfl (oy_31 qx_cX3_digest_6 22 rfl) rfl) (Eq.trans (alR_e rfl (oy_25 qx_cX3_digest_6 23 4 rfl rfl) rfl) (csS0 (M := (MX3_digest g)) (mc := (fun _ _ => 0)) (ms := (fun _ _ => 0)) (As := [.ref z0]) (rest := (List.cons (Value.long x) st)) (MX3_fixed g) rfl rfl rfl (oy_184 qx_cX3_digest_6 25 0 130 rfl rfl rfl rfl) rfl rfl rfl rfl rfl rfl rfl))
theorem eX3_digest_220 {g : RO} {Q : Ot → Hw → Prop} {st : List Value} {w : Hw} {k n : Nat} {l0 l1 l2 l3 l4 l5 : Option Value} {z0 : Int32} : WP (MX3_digest g) Q (Prod.mk 220 (Prod.mk (List.cons l0 (List.cons l1 (List.cons l2 (List.cons l3 (List.cons l4 (List.cons l5 List.nil)))))) (Prod.mk (List.cons (Value.int z0) st) (Prod.mk w (Prod.mk k n))))) = (wt st ≤ 8 ∧ k + 0 ≤ 90 ∧ n + 0 ≤ 520 ∧ WP (MX3_one g) (kx (fun v w' => WP (MX3_digest g) Q (Prod.mk 223 (Prod.mk (List.cons l0 (List.cons l1 (List.cons l2 (List.cons l3 (List.cons l4 (List.cons l5 List.nil)))))) (Prod.mk (v.toList ++ st) (Prod.mk w' (Prod.mk (k + 0) (n + 0))))))) (fun E w' => Q (.inr E) w')) (Prod.mk 0 (Prod.mk (List.cons (Option.some (Value.int z0)) List.nil) (Prod.mk List.nil (Prod.mk w (Prod.mk 0 0)))))) := csS0 (M := (MX3_digest g)) (mc := (fun _ _ => 0)) (ms := (fun _ _ => 0)) (As := [.int z0]) (rest := st) (MX3_one g) rfl rfl rfl (oy_184 qx_cX3_digest_6 28 0 92 rfl rfl rfl rfl) rfl rfl rfl rfl rfl rfl rfl
theorem eX3_digest_223 {g : RO} {Q : Ot → Hw → Prop} {w : Hw} {a : Int32} {z0 : Int64} {st : List Value} {k n : Nat} {l0 l1 l2 l3 l4 l5 : Option Value} : WP (MX3_digest g) Q (Prod.mk 223 (Prod.mk (List.cons l0 (List.cons l1 (List.cons l2 (List.cons l3 (List.cons l4 (List.cons l5 List.nil)))))) (Prod.mk (List.cons (Value.int a) (List.cons (Value.long z0) st)) (Prod.mk w (Prod.mk k n))))) = (wt st ≤ 8 ∧ k + 0 ≤ 90 ∧ n + 0 ≤ 520 ∧ WP (MX3_add g) (kx (fun v w' => WP (MX3_digest g) Q (Prod.mk 227 (Prod.mk (List.cons l0 (List.cons l1 (List.cons l2 (List.cons l3 (List.cons l4 (List.cons l5 List.nil)))))) (Prod.mk (v.toList ++ st) (Prod.mk w' (Prod.mk (k + 0) (n + 0))))))) (fun E w' => Q (.inr E) w')) (Prod.mk 0 (Prod.mk (List.cons (Option.some (Value.long z0)) (List.cons none (List.cons (Option.some (Value.long (a.toInt64 : Int64))) (List.cons none List.nil)))) (Prod.mk List.nil (Prod.mk w (Prod.mk 0 0)))))) := Eq.trans (i2l_e rfl (oy_133 qx_cX3_digest_6 31 rfl)) (csS0 (M := (MX3_digest g)) (mc := (fun _ _ => 0)) (ms := (fun _ _ => 0)) (As := [.long z0, .long (a.toInt64 : Int64)]) (rest := st) (MX3_add g) rfl rfl rfl (oy_184 qx_cX3_digest_7 0 0 220 rfl rfl rfl rfl) rfl rfl rfl rfl rfl rfl rfl)
theorem eX3_digest_227 {g : RO} {Q : Ot → Hw → Prop} {w : Hw} {st : List Value} {k n z0 : Nat} {l0 l1 l2 l3 l5 : Option Value} : WP (MX3_digest g) Q (Prod.mk 227 (Prod.mk (List.cons l0 (List.cons l1 (List.cons l2 (List.cons l3 (List.cons (Option.some (Value.ref z0)) (List.cons l5 List.nil)))))) (Prod.mk st (Prod.mk w (Prod.mk k n))))) = (wt st ≤ 8 ∧ k + 0 ≤ 90 ∧ n + 0 ≤ 520 ∧ WP (MX3_small g) (kx (fun v w' => WP (MX3_digest g) Q (Prod.mk 232 (Prod.mk (List.cons l0 (List.cons l1 (List.cons l2 (List.cons l3 (List.cons (Option.some (Value.ref z0)) (List.cons l5 List.nil)))))) (Prod.mk (v.toList ++ st) (Prod.mk w' (Prod.mk (k + 0) (n + 0))))))) (fun E w' => Q (.inr E) w')) (Prod.mk 0 (Prod.mk (List.cons (Option.some (Value.ref z0)) List.nil) (Prod.mk List.nil (Prod.mk w (Prod.mk 0 0)))))) := Eq.trans (alR_e rfl (oy_25 qx_cX3_digest_7 3 4 rfl rfl) rfl) (csS0 (M := (MX3_digest g)) (mc := (fun _ _ => 0)) (ms := (fun _ _ => 0)) (As := [.ref z0]) (rest := st) (MX3_small g) rfl rfl rfl (oy_184 qx_cX3_digest_7 5 0 137 rfl rfl rfl rfl) rfl rfl rfl rfl rfl rfl rfl)
theorem eX3_digest_232 {g : RO} {Q : Ot → Hw → Prop} {st : List Value} {w : Hw} {k n : Nat} {l0 l1 l2 l3 l4 l5 : Option Value} {z0 : Int32} : WP (MX3_digest g) Q (Prod.mk 232 (Prod.mk (List.cons l0 (List.cons l1 (List.cons l2 (List.cons l3 (List.cons l4 (List.cons l5 List.nil)))))) (Prod.mk (List.cons (Value.int z0) st) (Prod.mk w (Prod.mk k n))))) = (wt st ≤ 8 ∧ k + 0 ≤ 90 ∧ n + 0 ≤ 520 ∧ WP (MX3_one g) (kx (fun v w' => WP (MX3_digest g) Q (Prod.mk 235 (Prod.mk (List.cons l0 (List.cons l1 (List.cons l2 (List.cons l3 (List.cons l4 (List.cons l5 List.nil)))))) (Prod.mk (v.toList ++ st) (Prod.mk w' (Prod.mk (k + 0) (n + 0))))))) (fun E w' => Q (.inr E) w')) (Prod.mk 0 (Prod.mk (List.cons (Option.some (Value.int z0)) List.nil) (Prod.mk List.nil (Prod.mk w (Prod.mk 0 0)))))) := csS0 (M := (MX3_digest g)) (mc := (fun _ _ => 0)) (ms := (fun _ _ => 0)) (As := [.int z0]) (rest := st) (MX3_one g) rfl rfl rfl (oy_184 qx_cX3_digest_7 8 0 92 rfl rfl rfl rfl) rfl rfl rfl rfl rfl rfl rfl
theorem eX3_digest_235 {g : RO} {Q : Ot → Hw → Prop} {w : Hw} {a : Int32} {z0 : Int64} {st : List Value} {k n : Nat} {l0 l1 l2 l3 l4 l5 : Option Value} : WP (MX3_digest g) Q (Prod.mk 235 (Prod.mk (List.cons l0 (List.cons l1 (List.cons l2 (List.cons l3 (List.cons l4 (List.cons l5 List.nil)))))) (Prod.mk (List.cons (Value.int a) (List.cons (Value.long z0) st)) (Prod.mk w (Prod.mk k n))))) = (wt st ≤ 8 ∧ k + 0 ≤ 90 ∧ n + 0 ≤ 520 ∧ WP (MX3_add g) (kx (fun v w' => WP (MX3_digest g) Q (Prod.mk 239 (Prod.mk (List.cons l0 (List.cons l1 (List.cons l2 (List.cons l3 (List.cons l4 (List.cons l5 List.nil)))))) (Prod.mk (v.toList ++ st) (Prod.mk w' (Prod.mk (k + 0) (n + 0))))))) (fun E w' => Q (.inr E) w')) (Prod.mk 0 (Prod.mk (List.cons (Option.some (Value.long z0)) (List.cons none (List.cons (Option.some (Value.long (a.toInt64 : Int64))) (List.cons none List.nil)))) (Prod.mk List.nil (Prod.mk w (Prod.mk 0 0)))))) := Eq.trans (i2l_e rfl (oy_133 qx_cX3_digest_7 11 rfl)) (csS0 (M := (MX3_digest g)) (mc := (fun _ _ => 0)) (ms := (fun _ _ => 0)) (As := [.long z0, .long (a.toInt64 : Int64)]) (rest := st) (MX3_add g) rfl rfl rfl (oy_184 qx_cX3_digest_7 12 0 220 rfl rfl rfl rfl) rfl rfl rfl rfl rfl rfl rfl)
theorem eX3_digest_239 {g : RO} {Q : Ot → Hw → Prop} {w : Hw} {z0 : Int32} {st : List Value} {k n p : Nat} {l1 l2 l4 l5 : Option Value} : WP (MX3_digest g) Q (Prod.mk 239 (Prod.mk (List.cons (Option.some (Value.ref p)) (List.cons l1 (List.cons l2 (List.cons (Option.some (Value.int z0)) (List.cons l4 (List.cons l5 List.nil)))))) (Prod.mk st (Prod.mk w (Prod.mk k n))))) = (go (rd g w p) 7 (fun _ => True) ∧ wt st ≤ 8 ∧ k + 0 ≤ 90 ∧ n + 0 ≤ 520 ∧ WP (MX3_likesNow g) (kx (fun v w' => WP (MX3_digest g) Q (Prod.mk 244 (Prod.mk (List.cons (Option.some (Value.ref p)) (List.cons l1 (List.cons l2 (List.cons (Option.some (Value.int z0)) (List.cons l4 (List.cons l5 List.nil)))))) (Prod.mk (v.toList ++ st) (Prod.mk w' (Prod.mk (k + 0) (n + 0))))))) (fun E w' => Q (.inr E) w')) (Prod.mk 0 (Prod.mk (List.cons (Option.some (Value.ref p)) (List.cons (Option.some (Value.int z0)) (List.cons none (List.cons none List.nil)))) (Prod.mk List.nil (Prod.mk w (Prod.mk 0 0)))))) := Eq.trans (alnR_e rfl (oy_42 qx_cX3_digest_7 15 rfl) rfl) (Eq.trans (iln_e rfl (oy_29 qx_cX3_digest_7 16 rfl) rfl) (csV0 (M := (MX3_digest g)) (mc := (fun _ _ => 0)) (ms := (fun _ _ => 0)) (As := [.int z0]) (rest := st) (MX3_likesNow g) rfl rfl rfl (oy_182 qx_cX3_digest_7 17 0 171 rfl rfl rfl rfl) rfl rfl rfl rfl rfl rfl))
theorem eX3_digest_244 {g : RO} {Q : Ot → Hw → Prop} {w : Hw} {a : Int32} {z0 : Int64} {st : List Value} {k n : Nat} {l0 l1 l2 l3 l4 l5 : Option Value} : WP (MX3_digest g) Q (Prod.mk 244 (Prod.mk (List.cons l0 (List.cons l1 (List.cons l2 (List.cons l3 (List.cons l4 (List.cons l5 List.nil)))))) (Prod.mk (List.cons (Value.int a) (List.cons (Value.long z0) st)) (Prod.mk w (Prod.mk k n))))) = (wt st ≤ 8 ∧ k + 0 ≤ 90 ∧ n + 0 ≤ 520 ∧ WP (MX3_add g) (kx (fun v w' => WP (MX3_digest g) Q (Prod.mk 248 (Prod.mk (List.cons l0 (List.cons l1 (List.cons l2 (List.cons l3 (List.cons l4 (List.cons l5 List.nil)))))) (Prod.mk (v.toList ++ st) (Prod.mk w' (Prod.mk (k + 0) (n + 0))))))) (fun E w' => Q (.inr E) w')) (Prod.mk 0 (Prod.mk (List.cons (Option.some (Value.long z0)) (List.cons none (List.cons (Option.some (Value.long (a.toInt64 : Int64))) (List.cons none List.nil)))) (Prod.mk List.nil (Prod.mk w (Prod.mk 0 0)))))) := Eq.trans (i2l_e rfl (oy_133 qx_cX3_digest_7 20 rfl)) (csS0 (M := (MX3_digest g)) (mc := (fun _ _ => 0)) (ms := (fun _ _ => 0)) (As := [.long z0, .long (a.toInt64 : Int64)]) (rest := st) (MX3_add g) rfl rfl rfl (oy_184 qx_cX3_digest_7 21 0 220 rfl rfl rfl rfl) rfl rfl rfl rfl rfl rfl rfl)
theorem eX3_digest_248 {g : RO} {Q : Ot → Hw → Prop} {w : Hw} {x : Int64} {st : List Value} {k n : Nat} {l0 l1 l2 l3 l4 l5 : Option Value} : WP (MX3_digest g) Q (Prod.mk 248 (Prod.mk (List.cons l0 (List.cons l1 (List.cons l2 (List.cons l3 (List.cons l4 (List.cons l5 List.nil)))))) (Prod.mk (List.cons (Value.long x) st) (Prod.mk w (Prod.mk k n))))) = WP (MX3_digest g) Q (Prod.mk 250 (Prod.mk (List.cons (nl l0) (List.cons (Option.some (Value.long x)) (List.cons none (List.cons l3 (List.cons l4 (List.cons l5 List.nil)))))) (Prod.mk (List.cons (Value.long x) st) (Prod.mk w (Prod.mk k n))))) := Eq.trans (lsn_e rfl (oy_64 qx_cX3_digest_7 24 rfl) rfl rfl) (lln_e rfl (oy_31 qx_cX3_digest_7 25 rfl) rfl)
theorem eX3_digest_250 {g : RO} {Q : Ot → Hw → Prop} {w : Hw} {z0 : Int32} {st : List Value} {k n p : Nat} {l1 l2 l4 l5 : Option Value} : WP (MX3_digest g) Q (Prod.mk 250 (Prod.mk (List.cons (Option.some (Value.ref p)) (List.cons l1 (List.cons l2 (List.cons (Option.some (Value.int z0)) (List.cons l4 (List.cons l5 List.nil)))))) (Prod.mk st (Prod.mk w (Prod.mk k n))))) = (go (rd g w p) 7 (fun _ => True) ∧ wt st ≤ 8 ∧ k + 0 ≤ 90 ∧ n + 0 ≤ 520 ∧ WP (MX3_seekNow g) (kx (fun v w' => WP (MX3_digest g) Q (Prod.mk 256 (Prod.mk (List.cons (Option.some (Value.ref p)) (List.cons l1 (List.cons l2 (List.cons (Option.some (Value.int z0)) (List.cons l4 (List.cons l5 List.nil)))))) (Prod.mk (v.toList ++ st) (Prod.mk w' (Prod.mk (k + 0) (n + 0))))))) (fun E w' => Q (.inr E) w')) (Prod.mk 0 (Prod.mk (List.cons (Option.some (Value.ref p)) (List.cons (Option.some (Value.int z0)) (List.cons (Option.some (Value.int (0 : Int32))) (List.cons none (List.cons none List.nil))))) (Prod.mk List.nil (Prod.mk w (Prod.mk 0 0)))))) := Eq.trans (alnR_e rfl (oy_42 qx_cX3_digest_7 26 rfl) rfl) (Eq.trans (iln_e rfl (oy_29 qx_cX3_digest_7 27 rfl) rfl) (Eq.trans (ic_0 rfl (oy_3 qx_cX3_digest_7 28 rfl)) (csV0 (M := (MX3_digest g)) (mc := (fun _ _ => 0)) (ms := (fun _ _ => 0)) (As := [.int z0, .int (0 : Int32)]) (rest := st) (MX3_seekNow g) rfl rfl rfl (oy_182 qx_cX3_digest_7 29 0 177 rfl rfl rfl rfl) rfl rfl rfl rfl rfl rfl)))
theorem eX3_digest_256 {g : RO} {Q : Ot → Hw → Prop} {w : Hw} {a : Int32} {z0 : Int64} {st : List Value} {k n : Nat} {l0 l1 l2 l3 l4 l5 : Option Value} : WP (MX3_digest g) Q (Prod.mk 256 (Prod.mk (List.cons l0 (List.cons l1 (List.cons l2 (List.cons l3 (List.cons l4 (List.cons l5 List.nil)))))) (Prod.mk (List.cons (Value.int a) (List.cons (Value.long z0) st)) (Prod.mk w (Prod.mk k n))))) = (wt st ≤ 8 ∧ k + 0 ≤ 90 ∧ n + 0 ≤ 520 ∧ WP (MX3_add g) (kx (fun v w' => WP (MX3_digest g) Q (Prod.mk 260 (Prod.mk (List.cons l0 (List.cons l1 (List.cons l2 (List.cons l3 (List.cons l4 (List.cons l5 List.nil)))))) (Prod.mk (v.toList ++ st) (Prod.mk w' (Prod.mk (k + 0) (n + 0))))))) (fun E w' => Q (.inr E) w')) (Prod.mk 0 (Prod.mk (List.cons (Option.some (Value.long z0)) (List.cons none (List.cons (Option.some (Value.long (a.toInt64 : Int64))) (List.cons none List.nil)))) (Prod.mk List.nil (Prod.mk w (Prod.mk 0 0)))))) := Eq.trans (i2l_e rfl (oy_133 qx_cX3_digest_8 0 rfl)) (csS0 (M := (MX3_digest g)) (mc := (fun _ _ => 0)) (ms := (fun _ _ => 0)) (As := [.long z0, .long (a.toInt64 : Int64)]) (rest := st) (MX3_add g) rfl rfl rfl (oy_184 qx_cX3_digest_8 1 0 220 rfl rfl rfl rfl) rfl rfl rfl rfl rfl rfl rfl)
theorem eX3_digest_260 {g : RO} {Q : Ot → Hw → Prop} {w : Hw} {z0 : Int32} {st : List Value} {k n p : Nat} {l1 l2 l4 l5 : Option Value} : WP (MX3_digest g) Q (Prod.mk 260 (Prod.mk (List.cons (Option.some (Value.ref p)) (List.cons l1 (List.cons l2 (List.cons (Option.some (Value.int z0)) (List.cons l4 (List.cons l5 List.nil)))))) (Prod.mk st (Prod.mk w (Prod.mk k n))))) = (go (rd g w p) 7 (fun _ => True) ∧ wt st ≤ 8 ∧ k + 0 ≤ 90 ∧ n + 0 ≤ 520 ∧ WP (MX3_seekNow g) (kx (fun v w' => WP (MX3_digest g) Q (Prod.mk 266 (Prod.mk (List.cons (Option.some (Value.ref p)) (List.cons l1 (List.cons l2 (List.cons (Option.some (Value.int z0)) (List.cons l4 (List.cons l5 List.nil)))))) (Prod.mk (v.toList ++ st) (Prod.mk w' (Prod.mk (k + 0) (n + 0))))))) (fun E w' => Q (.inr E) w')) (Prod.mk 0 (Prod.mk (List.cons (Option.some (Value.ref p)) (List.cons (Option.some (Value.int z0)) (List.cons (Option.some (Value.int (1 : Int32))) (List.cons none (List.cons none List.nil))))) (Prod.mk List.nil (Prod.mk w (Prod.mk 0 0)))))) := Eq.trans (alnR_e rfl (oy_42 qx_cX3_digest_8 4 rfl) rfl) (Eq.trans (iln_e rfl (oy_29 qx_cX3_digest_8 5 rfl) rfl) (Eq.trans (ic_1 rfl (oy_4 qx_cX3_digest_8 6 rfl)) (csV0 (M := (MX3_digest g)) (mc := (fun _ _ => 0)) (ms := (fun _ _ => 0)) (As := [.int z0, .int (1 : Int32)]) (rest := st) (MX3_seekNow g) rfl rfl rfl (oy_182 qx_cX3_digest_8 7 0 177 rfl rfl rfl rfl) rfl rfl rfl rfl rfl rfl)))
theorem eX3_digest_266 {g : RO} {Q : Ot → Hw → Prop} {w : Hw} {a : Int32} {z0 : Int64} {st : List Value} {k n : Nat} {l0 l1 l2 l3 l4 l5 : Option Value} : WP (MX3_digest g) Q (Prod.mk 266 (Prod.mk (List.cons l0 (List.cons l1 (List.cons l2 (List.cons l3 (List.cons l4 (List.cons l5 List.nil)))))) (Prod.mk (List.cons (Value.int a) (List.cons (Value.long z0) st)) (Prod.mk w (Prod.mk k n))))) = (wt st ≤ 8 ∧ k + 0 ≤ 90 ∧ n + 0 ≤ 520 ∧ WP (MX3_add g) (kx (fun v w' => WP (MX3_digest g) Q (Prod.mk 270 (Prod.mk (List.cons l0 (List.cons l1 (List.cons l2 (List.cons l3 (List.cons l4 (List.cons l5 List.nil)))))) (Prod.mk (v.toList ++ st) (Prod.mk w' (Prod.mk (k + 0) (n + 0))))))) (fun E w' => Q (.inr E) w')) (Prod.mk 0 (Prod.mk (List.cons (Option.some (Value.long z0)) (List.cons none (List.cons (Option.some (Value.long (a.toInt64 : Int64))) (List.cons none List.nil)))) (Prod.mk List.nil (Prod.mk w (Prod.mk 0 0)))))) := Eq.trans (i2l_e rfl (oy_133 qx_cX3_digest_8 10 rfl)) (csS0 (M := (MX3_digest g)) (mc := (fun _ _ => 0)) (ms := (fun _ _ => 0)) (As := [.long z0, .long (a.toInt64 : Int64)]) (rest := st) (MX3_add g) rfl rfl rfl (oy_184 qx_cX3_digest_8 11 0 220 rfl rfl rfl rfl) rfl rfl rfl rfl rfl rfl rfl)
theorem eX3_digest_270 {g : RO} {Q : Ot → Hw → Prop} {w : Hw} {z0 : Int32} {st : List Value} {k n p : Nat} {l1 l2 l4 l5 : Option Value} : WP (MX3_digest g) Q (Prod.mk 270 (Prod.mk (List.cons (Option.some (Value.ref p)) (List.cons l1 (List.cons l2 (List.cons (Option.some (Value.int z0)) (List.cons l4 (List.cons l5 List.nil)))))) (Prod.mk st (Prod.mk w (Prod.mk k n))))) = (go (rd g w p) 7 (fun _ => True) ∧ wt st ≤ 8 ∧ k + 1 ≤ 90 ∧ n + 4 ≤ 520 ∧ WP (MX3_oftenNow g) (kx (fun v w' => WP (MX3_digest g) Q (Prod.mk 275 (Prod.mk (List.cons (Option.some (Value.ref p)) (List.cons l1 (List.cons l2 (List.cons (Option.some (Value.int z0)) (List.cons l4 (List.cons l5 List.nil)))))) (Prod.mk (v.toList ++ st) (Prod.mk w' (Prod.mk (k + 1) (n + 4))))))) (fun E w' => Q (.inr E) w')) (Prod.mk 0 (Prod.mk (List.cons (Option.some (Value.ref p)) (List.cons (Option.some (Value.int z0)) (List.cons none (List.cons none (List.cons none List.nil))))) (Prod.mk List.nil (Prod.mk w (Prod.mk 0 0)))))) := Eq.trans (alnR_e rfl (oy_42 qx_cX3_digest_8 14 rfl) rfl) (Eq.trans (iln_e rfl (oy_29 qx_cX3_digest_8 15 rfl) rfl) (csV0 (M := (MX3_digest g)) (mc := (fun _ _ => 1)) (ms := (fun _ _ => 4)) (As := [.int z0]) (rest := st) (MX3_oftenNow g) rfl rfl rfl (oy_182 qx_cX3_digest_8 16 0 195 rfl rfl rfl rfl) rfl rfl rfl rfl rfl rfl))
theorem eX3_digest_275 {g : RO} {Q : Ot → Hw → Prop} {w : Hw} {a : Int32} {z0 : Int64} {st : List Value} {k n : Nat} {l0 l1 l2 l3 l4 l5 : Option Value} : WP (MX3_digest g) Q (Prod.mk 275 (Prod.mk (List.cons l0 (List.cons l1 (List.cons l2 (List.cons l3 (List.cons l4 (List.cons l5 List.nil)))))) (Prod.mk (List.cons (Value.int a) (List.cons (Value.long z0) st)) (Prod.mk w (Prod.mk k n))))) = (wt st ≤ 8 ∧ k + 0 ≤ 90 ∧ n + 0 ≤ 520 ∧ WP (MX3_add g) (kx (fun v w' => WP (MX3_digest g) Q (Prod.mk 279 (Prod.mk (List.cons l0 (List.cons l1 (List.cons l2 (List.cons l3 (List.cons l4 (List.cons l5 List.nil)))))) (Prod.mk (v.toList ++ st) (Prod.mk w' (Prod.mk (k + 0) (n + 0))))))) (fun E w' => Q (.inr E) w')) (Prod.mk 0 (Prod.mk (List.cons (Option.some (Value.long z0)) (List.cons none (List.cons (Option.some (Value.long (a.toInt64 : Int64))) (List.cons none List.nil)))) (Prod.mk List.nil (Prod.mk w (Prod.mk 0 0)))))) := Eq.trans (i2l_e rfl (oy_133 qx_cX3_digest_8 19 rfl)) (csS0 (M := (MX3_digest g)) (mc := (fun _ _ => 0)) (ms := (fun _ _ => 0)) (As := [.long z0, .long (a.toInt64 : Int64)]) (rest := st) (MX3_add g) rfl rfl rfl (oy_184 qx_cX3_digest_8 20 0 220 rfl rfl rfl rfl) rfl rfl rfl rfl rfl rfl rfl)
theorem eX3_digest_279 {g : RO} {Q : Ot → Hw → Prop} {w : Hw} {x : Int64} {st : List Value} {k n : Nat} {l0 l1 l2 l3 l4 l5 : Option Value} : WP (MX3_digest g) Q (Prod.mk 279 (Prod.mk (List.cons l0 (List.cons l1 (List.cons l2 (List.cons l3 (List.cons l4 (List.cons l5 List.nil)))))) (Prod.mk (List.cons (Value.long x) st) (Prod.mk w (Prod.mk k n))))) = WP (MX3_digest g) Q (Prod.mk 283 (Prod.mk (List.cons (nl l0) (List.cons (Option.some (Value.long x)) (List.cons none (List.cons l3 (List.cons (nl l4) (List.cons (Option.some (Value.int ((-1) : Int32))) List.nil)))))) (Prod.mk st (Prod.mk w (Prod.mk k n))))) := Eq.trans (lsn_e rfl (oy_64 qx_cX3_digest_8 23 rfl) rfl rfl) (Eq.trans (ic_m rfl (oy_2 qx_cX3_digest_8 24 rfl)) (is_e rfl (oy_54 qx_cX3_digest_8 25 5 rfl rfl) rfl rfl))
theorem eX3_digest_283 {g : RO} {Q : Ot → Hw → Prop} {st : List Value} {w : Hw} {k n : Nat} {a : Int32} {l0 l1 l2 l3 l4 : Option Value} : WP (MX3_digest g) Q (Prod.mk 283 (Prod.mk (List.cons l0 (List.cons l1 (List.cons l2 (List.cons l3 (List.cons l4 (List.cons (Option.some (Value.int a)) List.nil)))))) (Prod.mk st (Prod.mk w (Prod.mk k n))))) = WP (MX3_digest g) Q (Prod.mk 285 (Prod.mk (List.cons l0 (List.cons l1 (List.cons l2 (List.cons l3 (List.cons l4 (List.cons (Option.some (Value.int a)) List.nil)))))) (Prod.mk (List.cons (Value.int a) st) (Prod.mk w (Prod.mk k n))))) := il_e rfl (oy_21 qx_cX3_digest_8 27 5 rfl rfl) rfl
theorem eX3_digest_285 {g : RO} {Q : Ot → Hw → Prop} {w : Hw} {a : Int32} {st : List Value} {k n : Nat} {l0 l1 l2 l3 l4 l5 : Option Value} : WP (MX3_digest g) Q (Prod.mk 285 (Prod.mk (List.cons l0 (List.cons l1 (List.cons l2 (List.cons l3 (List.cons l4 (List.cons l5 List.nil)))))) (Prod.mk (List.cons (Value.int a) st) (Prod.mk w (Prod.mk k n))))) = if (1 : Int32) < a then WP (MX3_digest g) Q (Prod.mk 308 (Prod.mk (List.cons l0 (List.cons l1 (List.cons l2 (List.cons l3 (List.cons l4 (List.cons l5 List.nil)))))) (Prod.mk st (Prod.mk w (Prod.mk k n))))) else WP (MX3_digest g) Q (Prod.mk 289 (Prod.mk (List.cons l0 (List.cons l1 (List.cons l2 (List.cons l3 (List.cons l4 (List.cons l5 List.nil)))))) (Prod.mk st (Prod.mk w (Prod.mk k n))))) := Eq.trans (ic_1 rfl (oy_4 qx_cX3_digest_8 29 rfl)) (icm_e ((1 : Int32) < a) rfl (oy_163 qx_cX3_digest_8 30 0 22 rfl rfl rfl rfl) rfl (by decide))
theorem eX3_digest_289 {g : RO} {Q : Ot → Hw → Prop} {w : Hw} {z1 : Int32} {x : Int64} {st : List Value} {k n z0 : Nat} {l0 l2 l3 : Option Value} : WP (MX3_digest g) Q (Prod.mk 289 (Prod.mk (List.cons l0 (List.cons (Option.some (Value.long x)) (List.cons l2 (List.cons l3 (List.cons (Option.some (Value.ref z0)) (List.cons (Option.some (Value.int z1)) List.nil)))))) (Prod.mk st (Prod.mk w (Prod.mk k n))))) = (wt (List.cons (Value.long x) st) ≤ 8 ∧ k + 0 ≤ 90 ∧ n + 0 ≤ 520 ∧ WP (MX3_whichNow g) (kx (fun v w' => WP (MX3_digest g) Q (Prod.mk 297 (Prod.mk (List.cons l0 (List.cons (Option.some (Value.long x)) (List.cons l2 (List.cons l3 (List.cons (Option.some (Value.ref z0)) (List.cons (Option.some (Value.int z1)) List.nil)))))) (Prod.mk (v.toList ++ (List.cons (Value.long x) st)) (Prod.mk w' (Prod.mk (k + 0) (n + 0))))))) (fun E w' => Q (.inr E) w')) (Prod.mk 0 (Prod.mk (List.cons (Option.some (Value.ref z0)) (List.cons (Option.some (Value.int z1)) List.nil)) (Prod.mk List.nil (Prod.mk w (Prod.mk 0 0)))))) := Eq.trans (lln_e rfl (oy_31 qx_cX3_digest_9 1 rfl) rfl) (Eq.trans (alR_e rfl (oy_25 qx_cX3_digest_9 2 4 rfl rfl) rfl) (Eq.trans (il_e rfl (oy_21 qx_cX3_digest_9 4 5 rfl rfl) rfl) (csS0 (M := (MX3_digest g)) (mc := (fun _ _ => 0)) (ms := (fun _ _ => 0)) (As := [.ref z0, .int z1]) (rest := (List.cons (Value.long x) st)) (MX3_whichNow g) rfl rfl rfl (oy_184 qx_cX3_digest_9 6 0 156 rfl rfl rfl rfl) rfl rfl rfl rfl rfl rfl rfl)))
theorem eX3_digest_297 {g : RO} {Q : Ot → Hw → Prop} {w : Hw} {a : Int32} {z0 : Int64} {st : List Value} {k n : Nat} {l0 l1 l2 l3 l4 l5 : Option Value} : WP (MX3_digest g) Q (Prod.mk 297 (Prod.mk (List.cons l0 (List.cons l1 (List.cons l2 (List.cons l3 (List.cons l4 (List.cons l5 List.nil)))))) (Prod.mk (List.cons (Value.int a) (List.cons (Value.long z0) st)) (Prod.mk w (Prod.mk k n))))) = (wt st ≤ 8 ∧ k + 0 ≤ 90 ∧ n + 0 ≤ 520 ∧ WP (MX3_add g) (kx (fun v w' => WP (MX3_digest g) Q (Prod.mk 301 (Prod.mk (List.cons l0 (List.cons l1 (List.cons l2 (List.cons l3 (List.cons l4 (List.cons l5 List.nil)))))) (Prod.mk (v.toList ++ st) (Prod.mk w' (Prod.mk (k + 0) (n + 0))))))) (fun E w' => Q (.inr E) w')) (Prod.mk 0 (Prod.mk (List.cons (Option.some (Value.long z0)) (List.cons none (List.cons (Option.some (Value.long (a.toInt64 : Int64))) (List.cons none List.nil)))) (Prod.mk List.nil (Prod.mk w (Prod.mk 0 0)))))) := Eq.trans (i2l_e rfl (oy_133 qx_cX3_digest_9 9 rfl)) (csS0 (M := (MX3_digest g)) (mc := (fun _ _ => 0)) (ms := (fun _ _ => 0)) (As := [.long z0, .long (a.toInt64 : Int64)]) (rest := st) (MX3_add g) rfl rfl rfl (oy_184 qx_cX3_digest_9 10 0 220 rfl rfl rfl rfl) rfl rfl rfl rfl rfl rfl rfl)
theorem eX3_digest_301 {g : RO} {Q : Ot → Hw → Prop} {w : Hw} {a : Int32} {x : Int64} {st : List Value} {k n : Nat} {l0 l1 l2 l3 l4 : Option Value} : WP (MX3_digest g) Q (Prod.mk 301 (Prod.mk (List.cons l0 (List.cons l1 (List.cons l2 (List.cons l3 (List.cons l4 (List.cons (Option.some (Value.int a)) List.nil)))))) (Prod.mk (List.cons (Value.long x) st) (Prod.mk w (Prod.mk k n))))) = WP (MX3_digest g) Q (Prod.mk 283 (Prod.mk (List.cons (nl l0) (List.cons (Option.some (Value.long x)) (List.cons none (List.cons l3 (List.cons (nl l4) (List.cons (Option.some (Value.int (a + 1))) List.nil)))))) (Prod.mk st (Prod.mk w (Prod.mk k n))))) := Eq.trans (lsn_e rfl (oy_64 qx_cX3_digest_9 13 rfl) rfl rfl) (Eq.trans (Eq.trans (iinc_e (M := (MX3_digest g)) (L := [(nl l0), (Option.some (Value.long x)), none, l3, l4, some (.int a)]) (d := 1) rfl (oy_132 qx_cX3_digest_9 14 5 1 rfl rfl rfl rfl) (by decide) rfl) rfl) (goto_e rfl (oy_167 qx_cX3_digest_9 17 255 234 rfl rfl rfl rfl) (by decide)))
theorem eX3_digest_308 {g : RO} {Q : Ot → Hw → Prop} {w : Hw} {a : Int32} {st : List Value} {k n : Nat} {l0 l1 l2 l4 l5 : Option Value} : WP (MX3_digest g) Q (Prod.mk 308 (Prod.mk (List.cons l0 (List.cons l1 (List.cons l2 (List.cons (Option.some (Value.int a)) (List.cons l4 (List.cons l5 List.nil)))))) (Prod.mk st (Prod.mk w (Prod.mk k n))))) = WP (MX3_digest g) Q (Prod.mk 97 (Prod.mk (List.cons l0 (List.cons l1 (List.cons (nl l2) (List.cons (Option.some (Value.int (a + 1))) (List.cons l4 (List.cons l5 List.nil)))))) (Prod.mk st (Prod.mk w (Prod.mk k n))))) := Eq.trans (Eq.trans (iinc_e (M := (MX3_digest g)) (L := [l0, l1, l2, some (.int a), l4, l5]) (d := 1) rfl (oy_132 qx_cX3_digest_9 20 3 1 rfl rfl rfl rfl) (by decide) rfl) rfl) (goto_e rfl (oy_167 qx_cX3_digest_9 23 255 42 rfl rfl rfl rfl) (by decide))
theorem eX3_digest_314 {g : RO} {Q : Ot → Hw → Prop} {w : Hw} {st : List Value} {k n : Nat} {l0 l1 l2 l3 l4 l5 : Option Value} : WP (MX3_digest g) Q (Prod.mk 314 (Prod.mk (List.cons l0 (List.cons l1 (List.cons l2 (List.cons l3 (List.cons l4 (List.cons l5 List.nil)))))) (Prod.mk st (Prod.mk w (Prod.mk k n))))) = WP (MX3_digest g) Q (Prod.mk 316 (Prod.mk (List.cons l0 (List.cons l1 (List.cons (nl l2) (List.cons (Option.some (Value.int (0 : Int32))) (List.cons l4 (List.cons l5 List.nil)))))) (Prod.mk st (Prod.mk w (Prod.mk k n))))) := Eq.trans (ic_0 rfl (oy_3 qx_cX3_digest_9 26 rfl)) (isn_e rfl (oy_62 qx_cX3_digest_9 27 rfl) rfl rfl)
theorem eX3_digest_316 {g : RO} {Q : Ot → Hw → Prop} {st : List Value} {w : Hw} {k n : Nat} {a : Int32} {l0 l1 l2 l4 l5 : Option Value} : WP (MX3_digest g) Q (Prod.mk 316 (Prod.mk (List.cons l0 (List.cons l1 (List.cons l2 (List.cons (Option.some (Value.int a)) (List.cons l4 (List.cons l5 List.nil)))))) (Prod.mk st (Prod.mk w (Prod.mk k n))))) = WP (MX3_digest g) Q (Prod.mk 317 (Prod.mk (List.cons l0 (List.cons l1 (List.cons l2 (List.cons (Option.some (Value.int a)) (List.cons l4 (List.cons l5 List.nil)))))) (Prod.mk (List.cons (Value.int a) st) (Prod.mk w (Prod.mk k n))))) := iln_e rfl (oy_29 qx_cX3_digest_9 28 rfl) rfl
theorem eX3_digest_317 {g : RO} {Q : Ot → Hw → Prop} {w : Hw} {a : Int32} {st : List Value} {k n : Nat} {l0 l1 l2 l3 l4 l5 : Option Value} : WP (MX3_digest g) Q (Prod.mk 317 (Prod.mk (List.cons l0 (List.cons l1 (List.cons l2 (List.cons l3 (List.cons l4 (List.cons l5 List.nil)))))) (Prod.mk (List.cons (Value.int a) st) (Prod.mk w (Prod.mk k n))))) = if (2 : Int32) < a then WP (MX3_digest g) Q (Prod.mk 338 (Prod.mk (List.cons l0 (List.cons l1 (List.cons l2 (List.cons l3 (List.cons l4 (List.cons l5 List.nil)))))) (Prod.mk st (Prod.mk w (Prod.mk k n))))) else WP (MX3_digest g) Q (Prod.mk 321 (Prod.mk (List.cons l0 (List.cons l1 (List.cons l2 (List.cons l3 (List.cons l4 (List.cons l5 List.nil)))))) (Prod.mk st (Prod.mk w (Prod.mk k n))))) := Eq.trans (ic_2 rfl (oy_5 qx_cX3_digest_9 29 rfl)) (icm_e ((2 : Int32) < a) rfl (oy_163 qx_cX3_digest_9 30 0 20 rfl rfl rfl rfl) rfl (by decide))
theorem eX3_digest_321 {g : RO} {Q : Ot → Hw → Prop} {w : Hw} {z0 : Int32} {x : Int64} {st : List Value} {k n p : Nat} {l2 l4 l5 : Option Value} : WP (MX3_digest g) Q (Prod.mk 321 (Prod.mk (List.cons (Option.some (Value.ref p)) (List.cons (Option.some (Value.long x)) (List.cons l2 (List.cons (Option.some (Value.int z0)) (List.cons l4 (List.cons l5 List.nil)))))) (Prod.mk st (Prod.mk w (Prod.mk k n))))) = (go (rd g w p) 7 (fun _ => True) ∧ wt (List.cons (Value.long x) st) ≤ 8 ∧ k + 0 ≤ 90 ∧ n + 0 ≤ 520 ∧ WP (MX3_whichNow_ g) (kx (fun v w' => WP (MX3_digest g) Q (Prod.mk 327 (Prod.mk (List.cons (Option.some (Value.ref p)) (List.cons (Option.some (Value.long x)) (List.cons l2 (List.cons (Option.some (Value.int z0)) (List.cons l4 (List.cons l5 List.nil)))))) (Prod.mk (v.toList ++ (List.cons (Value.long x) st)) (Prod.mk w' (Prod.mk (k + 0) (n + 0))))))) (fun E w' => Q (.inr E) w')) (Prod.mk 0 (Prod.mk (List.cons (Option.some (Value.ref p)) (List.cons (Option.some (Value.int z0)) (List.cons none (List.cons none List.nil)))) (Prod.mk List.nil (Prod.mk w (Prod.mk 0 0)))))) := Eq.trans (lln_e rfl (oy_31 qx_cX3_digest_10 1 rfl) rfl) (Eq.trans (alnR_e rfl (oy_42 qx_cX3_digest_10 2 rfl) rfl) (Eq.trans (iln_e rfl (oy_29 qx_cX3_digest_10 3 rfl) rfl) (csV0 (M := (MX3_digest g)) (mc := (fun _ _ => 0)) (ms := (fun _ _ => 0)) (As := [.int z0]) (rest := (List.cons (Value.long x) st)) (MX3_whichNow_ g) rfl rfl rfl (oy_182 qx_cX3_digest_10 4 0 168 rfl rfl rfl rfl) rfl rfl rfl rfl rfl rfl)))
theorem eX3_digest_327 {g : RO} {Q : Ot → Hw → Prop} {w : Hw} {a : Int32} {z0 : Int64} {st : List Value} {k n : Nat} {l0 l1 l2 l3 l4 l5 : Option Value} : WP (MX3_digest g) Q (Prod.mk 327 (Prod.mk (List.cons l0 (List.cons l1 (List.cons l2 (List.cons l3 (List.cons l4 (List.cons l5 List.nil)))))) (Prod.mk (List.cons (Value.int a) (List.cons (Value.long z0) st)) (Prod.mk w (Prod.mk k n))))) = (wt st ≤ 8 ∧ k + 0 ≤ 90 ∧ n + 0 ≤ 520 ∧ WP (MX3_add g) (kx (fun v w' => WP (MX3_digest g) Q (Prod.mk 331 (Prod.mk (List.cons l0 (List.cons l1 (List.cons l2 (List.cons l3 (List.cons l4 (List.cons l5 List.nil)))))) (Prod.mk (v.toList ++ st) (Prod.mk w' (Prod.mk (k + 0) (n + 0))))))) (fun E w' => Q (.inr E) w')) (Prod.mk 0 (Prod.mk (List.cons (Option.some (Value.long z0)) (List.cons none (List.cons (Option.some (Value.long (a.toInt64 : Int64))) (List.cons none List.nil)))) (Prod.mk List.nil (Prod.mk w (Prod.mk 0 0)))))) := Eq.trans (i2l_e rfl (oy_133 qx_cX3_digest_10 7 rfl)) (csS0 (M := (MX3_digest g)) (mc := (fun _ _ => 0)) (ms := (fun _ _ => 0)) (As := [.long z0, .long (a.toInt64 : Int64)]) (rest := st) (MX3_add g) rfl rfl rfl (oy_184 qx_cX3_digest_10 8 0 220 rfl rfl rfl rfl) rfl rfl rfl rfl rfl rfl rfl)
theorem eX3_digest_331 {g : RO} {Q : Ot → Hw → Prop} {w : Hw} {a : Int32} {x : Int64} {st : List Value} {k n : Nat} {l0 l1 l2 l4 l5 : Option Value} : WP (MX3_digest g) Q (Prod.mk 331 (Prod.mk (List.cons l0 (List.cons l1 (List.cons l2 (List.cons (Option.some (Value.int a)) (List.cons l4 (List.cons l5 List.nil)))))) (Prod.mk (List.cons (Value.long x) st) (Prod.mk w (Prod.mk k n))))) = WP (MX3_digest g) Q (Prod.mk 316 (Prod.mk (List.cons (nl l0) (List.cons (Option.some (Value.long x)) (List.cons (nl none) (List.cons (Option.some (Value.int (a + 1))) (List.cons l4 (List.cons l5 List.nil)))))) (Prod.mk st (Prod.mk w (Prod.mk k n))))) := Eq.trans (lsn_e rfl (oy_64 qx_cX3_digest_10 11 rfl) rfl rfl) (Eq.trans (Eq.trans (iinc_e (M := (MX3_digest g)) (L := [(nl l0), (Option.some (Value.long x)), none, some (.int a), l4, l5]) (d := 1) rfl (oy_132 qx_cX3_digest_10 12 3 1 rfl rfl rfl rfl) (by decide) rfl) rfl) (goto_e rfl (oy_167 qx_cX3_digest_10 15 255 237 rfl rfl rfl rfl) (by decide)))
theorem eX3_digest_338 {g : RO} {Q : Ot → Hw → Prop} {w : Hw} {st : List Value} {k n : Nat} {l0 l1 l2 l3 l4 l5 : Option Value} : WP (MX3_digest g) Q (Prod.mk 338 (Prod.mk (List.cons l0 (List.cons l1 (List.cons l2 (List.cons l3 (List.cons l4 (List.cons l5 List.nil)))))) (Prod.mk st (Prod.mk w (Prod.mk k n))))) = WP (MX3_digest g) Q (Prod.mk 340 (Prod.mk (List.cons l0 (List.cons l1 (List.cons (nl l2) (List.cons (Option.some (Value.int (0 : Int32))) (List.cons l4 (List.cons l5 List.nil)))))) (Prod.mk st (Prod.mk w (Prod.mk k n))))) := Eq.trans (ic_0 rfl (oy_3 qx_cX3_digest_10 18 rfl)) (isn_e rfl (oy_62 qx_cX3_digest_10 19 rfl) rfl rfl)
theorem eX3_digest_340 {g : RO} {Q : Ot → Hw → Prop} {st : List Value} {w : Hw} {k n : Nat} {a : Int32} {l0 l1 l2 l4 l5 : Option Value} : WP (MX3_digest g) Q (Prod.mk 340 (Prod.mk (List.cons l0 (List.cons l1 (List.cons l2 (List.cons (Option.some (Value.int a)) (List.cons l4 (List.cons l5 List.nil)))))) (Prod.mk st (Prod.mk w (Prod.mk k n))))) = WP (MX3_digest g) Q (Prod.mk 341 (Prod.mk (List.cons l0 (List.cons l1 (List.cons l2 (List.cons (Option.some (Value.int a)) (List.cons l4 (List.cons l5 List.nil)))))) (Prod.mk (List.cons (Value.int a) st) (Prod.mk w (Prod.mk k n))))) := iln_e rfl (oy_29 qx_cX3_digest_10 20 rfl) rfl
theorem eX3_digest_341 {g : RO} {Q : Ot → Hw → Prop} {w : Hw} {a : Int32} {st : List Value} {k n : Nat} {l0 l1 l2 l3 l4 l5 : Option Value} : WP (MX3_digest g) Q (Prod.mk 341 (Prod.mk (List.cons l0 (List.cons l1 (List.cons l2 (List.cons l3 (List.cons l4 (List.cons l5 List.nil)))))) (Prod.mk (List.cons (Value.int a) st) (Prod.mk w (Prod.mk k n))))) = if (5 : Int32) < a then WP (MX3_digest g) Q (Prod.mk 363 (Prod.mk (List.cons l0 (List.cons l1 (List.cons l2 (List.cons l3 (List.cons l4 (List.cons l5 List.nil)))))) (Prod.mk st (Prod.mk w (Prod.mk k n))))) else WP (MX3_digest g) Q (Prod.mk 345 (Prod.mk (List.cons l0 (List.cons l1 (List.cons l2 (List.cons l3 (List.cons l4 (List.cons l5 List.nil)))))) (Prod.mk st (Prod.mk w (Prod.mk k n))))) := Eq.trans (ic_5 rfl (oy_8 qx_cX3_digest_10 21 rfl)) (icm_e ((5 : Int32) < a) rfl (oy_163 qx_cX3_digest_10 22 0 21 rfl rfl rfl rfl) rfl (by decide))
theorem eX3_digest_345 {g : RO} {Q : Ot → Hw → Prop} {w : Hw} {z1 : Int32} {x : Int64} {st : List Value} {k n p : Nat} {l2 l4 l5 : Option Value} : WP (MX3_digest g) Q (Prod.mk 345 (Prod.mk (List.cons (Option.some (Value.ref p)) (List.cons (Option.some (Value.long x)) (List.cons l2 (List.cons (Option.some (Value.int z1)) (List.cons l4 (List.cons l5 List.nil)))))) (Prod.mk st (Prod.mk w (Prod.mk k n))))) = (go (rd g w p) 7 (fun _ => True) ∧ wt (List.cons (Value.long x) st) ≤ 8 ∧ k + 12 ≤ 90 ∧ n + 72 ≤ 520 ∧ WP (MX3_pileNow g) (kx (fun v w' => WP (MX3_digest g) Q (Prod.mk 352 (Prod.mk (List.cons (Option.some (Value.ref p)) (List.cons (Option.some (Value.long x)) (List.cons l2 (List.cons (Option.some (Value.int z1)) (List.cons l4 (List.cons l5 List.nil)))))) (Prod.mk (v.toList ++ (List.cons (Value.long x) st)) (Prod.mk w' (Prod.mk (k + 12) (n + 72))))))) (fun E w' => Q (.inr E) w')) (Prod.mk 0 (Prod.mk (List.cons (Option.some (Value.ref p)) (List.cons (Option.some (Value.int (0 : Int32))) (List.cons (Option.some (Value.int z1)) (List.cons none (List.cons none (List.cons none (List.cons none List.nil))))))) (Prod.mk List.nil (Prod.mk w (Prod.mk 0 0)))))) := Eq.trans (lln_e rfl (oy_31 qx_cX3_digest_10 25 rfl) rfl) (Eq.trans (alnR_e rfl (oy_42 qx_cX3_digest_10 26 rfl) rfl) (Eq.trans (ic_0 rfl (oy_3 qx_cX3_digest_10 27 rfl)) (Eq.trans (iln_e rfl (oy_29 qx_cX3_digest_10 28 rfl) rfl) (csV0 (M := (MX3_digest g)) (mc := (fun _ _ => 12)) (ms := (fun _ _ => 72)) (As := [.int (0 : Int32), .int z1]) (rest := (List.cons (Value.long x) st)) (MX3_pileNow g) rfl rfl rfl (oy_182 qx_cX3_digest_10 29 0 207 rfl rfl rfl rfl) rfl rfl rfl rfl rfl rfl))))
theorem eX3_digest_352 {g : RO} {Q : Ot → Hw → Prop} {w : Hw} {a : Int32} {z0 : Int64} {st : List Value} {k n : Nat} {l0 l1 l2 l3 l4 l5 : Option Value} : WP (MX3_digest g) Q (Prod.mk 352 (Prod.mk (List.cons l0 (List.cons l1 (List.cons l2 (List.cons l3 (List.cons l4 (List.cons l5 List.nil)))))) (Prod.mk (List.cons (Value.int a) (List.cons (Value.long z0) st)) (Prod.mk w (Prod.mk k n))))) = (wt st ≤ 8 ∧ k + 0 ≤ 90 ∧ n + 0 ≤ 520 ∧ WP (MX3_add g) (kx (fun v w' => WP (MX3_digest g) Q (Prod.mk 356 (Prod.mk (List.cons l0 (List.cons l1 (List.cons l2 (List.cons l3 (List.cons l4 (List.cons l5 List.nil)))))) (Prod.mk (v.toList ++ st) (Prod.mk w' (Prod.mk (k + 0) (n + 0))))))) (fun E w' => Q (.inr E) w')) (Prod.mk 0 (Prod.mk (List.cons (Option.some (Value.long z0)) (List.cons none (List.cons (Option.some (Value.long (a.toInt64 : Int64))) (List.cons none List.nil)))) (Prod.mk List.nil (Prod.mk w (Prod.mk 0 0)))))) := Eq.trans (i2l_e rfl (oy_133 qx_cX3_digest_11 0 rfl)) (csS0 (M := (MX3_digest g)) (mc := (fun _ _ => 0)) (ms := (fun _ _ => 0)) (As := [.long z0, .long (a.toInt64 : Int64)]) (rest := st) (MX3_add g) rfl rfl rfl (oy_184 qx_cX3_digest_11 1 0 220 rfl rfl rfl rfl) rfl rfl rfl rfl rfl rfl rfl)
theorem eX3_digest_356 {g : RO} {Q : Ot → Hw → Prop} {w : Hw} {a : Int32} {x : Int64} {st : List Value} {k n : Nat} {l0 l1 l2 l4 l5 : Option Value} : WP (MX3_digest g) Q (Prod.mk 356 (Prod.mk (List.cons l0 (List.cons l1 (List.cons l2 (List.cons (Option.some (Value.int a)) (List.cons l4 (List.cons l5 List.nil)))))) (Prod.mk (List.cons (Value.long x) st) (Prod.mk w (Prod.mk k n))))) = WP (MX3_digest g) Q (Prod.mk 340 (Prod.mk (List.cons (nl l0) (List.cons (Option.some (Value.long x)) (List.cons (nl none) (List.cons (Option.some (Value.int (a + 1))) (List.cons l4 (List.cons l5 List.nil)))))) (Prod.mk st (Prod.mk w (Prod.mk k n))))) := Eq.trans (lsn_e rfl (oy_64 qx_cX3_digest_11 4 rfl) rfl rfl) (Eq.trans (Eq.trans (iinc_e (M := (MX3_digest g)) (L := [(nl l0), (Option.some (Value.long x)), none, some (.int a), l4, l5]) (d := 1) rfl (oy_132 qx_cX3_digest_11 5 3 1 rfl rfl rfl rfl) (by decide) rfl) rfl) (goto_e rfl (oy_167 qx_cX3_digest_11 8 255 236 rfl rfl rfl rfl) (by decide)))
theorem eX3_digest_363 {g : RO} {Q : Ot → Hw → Prop} {w : Hw} {z0 : Int64} {st : List Value} {k n : Nat} {l0 l2 l3 l4 l5 : Option Value} : WP (MX3_digest g) Q (Prod.mk 363 (Prod.mk (List.cons l0 (List.cons (Option.some (Value.long z0)) (List.cons l2 (List.cons l3 (List.cons l4 (List.cons l5 List.nil)))))) (Prod.mk st (Prod.mk w (Prod.mk k n))))) = (wt st ≤ 8 ∧ k + 0 ≤ 90 ∧ n + 0 ≤ 520 ∧ WP (MX3_add g) (kx (fun v w' => WP (MX3_digest g) Q (Prod.mk 368 (Prod.mk (List.cons l0 (List.cons (Option.some (Value.long z0)) (List.cons l2 (List.cons l3 (List.cons l4 (List.cons l5 List.nil)))))) (Prod.mk (v.toList ++ st) (Prod.mk w' (Prod.mk (k + 0) (n + 0))))))) (fun E w' => Q (.inr E) w')) (Prod.mk 0 (Prod.mk (List.cons (Option.some (Value.long z0)) (List.cons none (List.cons (Option.some (Value.long (1 : Int64))) (List.cons none List.nil)))) (Prod.mk List.nil (Prod.mk w (Prod.mk 0 0)))))) := Eq.trans (lln_e rfl (oy_31 qx_cX3_digest_11 11 rfl) rfl) (Eq.trans (lconst_e rfl (oy_10 qx_cX3_digest_11 12 rfl) (by decide)) (csS0 (M := (MX3_digest g)) (mc := (fun _ _ => 0)) (ms := (fun _ _ => 0)) (As := [.long z0, .long (1 : Int64)]) (rest := st) (MX3_add g) rfl rfl rfl (oy_184 qx_cX3_digest_11 13 0 220 rfl rfl rfl rfl) rfl rfl rfl rfl rfl rfl rfl))
theorem eX3_digest_368 {g : RO} {Q : Ot → Hw → Prop} {w : Hw} {k n : Nat} {x : Int64} {l0 l1 l2 l3 l4 l5 : Option Value} : WP (MX3_digest g) Q (Prod.mk 368 (Prod.mk (List.cons l0 (List.cons l1 (List.cons l2 (List.cons l3 (List.cons l4 (List.cons l5 List.nil)))))) (Prod.mk (List.cons (Value.long x) List.nil) (Prod.mk w (Prod.mk k n))))) = (k ≤ 90 ∧ n ≤ 520 ∧ Q (.inl (Option.some (Value.long x))) w) := lret_e rfl (oy_173 qx_cX3_digest_11 16 rfl) rfl
theorem wk_1666 : (.constantLong RX3 218 (7783) : Jvm.Cond) ∈ WS := WS_t7 168 (by eq_refl) (by eq_refl)
theorem wk_1669 : (.code yX3_add cX3_add 4 (some .long) : Jvm.Cond) ∈ WS := WS_t7 171 (by eq_refl) (by eq_refl)
theorem wk_1667 : (.methodLink RX3 220 yX3_add : Jvm.Cond) ∈ WS := WS_t7 169 (by eq_refl) (by eq_refl)
theorem wk_1668 : (.static yX3_add : Jvm.Cond) ∈ WS := WS_t7 170 (by eq_refl) (by eq_refl)
theorem pd50 : (parseMethodDescriptor "(JJ)J").map (fun d => d.parameters.length) = some 2 := by decide +kernel
theorem kc_77 {l : Launch} (hl : l.stackTraces = false) {G : GT} {own : String} {i : Nat} (hw : Jvm.Cond.methodLink own i yX3_add ∈ WS) : vCal l G own i (0, 2, 0, 1, (fun _ _ => 0), (fun _ _ => 0), yX3_add, spOf (MX3_add (gg G))) := ⟨cX3_add, 4, some .long, fun y hy => by subst hy; exact ⟨Nat.le_of_ble_eq_true rfl, ⟨_, wk_1669, okX3_add hl, Or.inl ⟨Nat.ne_of_beq_eq_false rfl, rfl⟩⟩, wk_60, nc13, ⟨pd50, hw, wk_1668⟩⟩⟩
theorem vMX3_digest {l : Launch} (hl : l.stackTraces = false) (G : GT) : vM l G (MX3_digest (gg G)) := vM_k RX3 cX3_digest rfl rfl (all_c (vF_RX3_27) (all_c (vF_RX3_9) (all_c (vF_RX3_16) (all_n)))) all_n all_n (all_c (wk_1666) (all_n)) all_n (fun h => absurd rfl h) (all_c (kc_76 hl wk_1649) (all_c (kc_77 hl wk_1667) (all_c (kc_40 hl wk_1236) (all_c (kc_41 hl wk_1244) (all_c (kc_65 hl wk_1488) (all_c (kc_53 hl wk_1372) (all_c (kc_47 hl wk_1311) (all_c (kc_37 hl wk_1376) (all_c (kc_64 hl wk_1477) (all_c (kc_56 hl wk_1392) (all_c (kc_58 hl wk_1427) (all_c (kc_67 hl wk_1512) (all_c (kc_69 hl wk_1528) (all_c (kc_71 hl wk_1536) (all_c (kc_63 hl wk_1470) (all_c (kc_66 hl wk_1496) (all_c (kc_75 hl wk_1636) (all_n)))))))))))))))))) all_n (all_c (⟨.long, rfl, (fun C h => by cases h), wk_1380⟩) (all_n)) (fun h => absurd rfl h) rfl all_n
theorem okX3_digest {l : Launch} (hl : l.stackTraces = false) {G : GT} : ∀ (args : List Value) (w : Hw) (S : Ot → Hw → Prop), spOf (MX3_digest (gg G)) args w S → CX l G yX3_digest (.code yX3_digest cX3_digest 6 (some .long)) 6 90 520 args w S := CX_sp (M := MX3_digest (gg G)) (y := yX3_digest) hl pn15 rfl (vMX3_digest hl G) (fun h => by cases h) rfl
end
/-! 60.text0.lean.txt -/
section
section
variable {g : RO} {Q : Ot → Hw → Prop} {w0 w : Hw}
def bOK (N : Nat) (f : Nat → Int32) : Prop := ∀ j, j < N → fits .byte (.int (f j)) = true
theorem i8_rng (v : Int32) : fits .byte (.int v.toInt8.toInt32) = true := by
  have h1 := Int8.le_toInt v.toInt8
  have h2 := Int8.toInt_lt v.toInt8
  have e0 := Int8.toInt_toInt32 v.toInt8
  have a : (-128 : Int32) ≤ v.toInt8.toInt32 := Int32.le_iff_toInt_le.mpr (by have e : (-128 : Int32).toInt = -128 := by decide
                                                                              omega)
  have b : v.toInt8.toInt32 ≤ (127 : Int32) := Int32.le_iff_toInt_le.mpr (by have e : (127 : Int32).toInt = 127 := rfl
                                                                             omega)
  simp only [fits, Bool.and_eq_true, decide_eq_true_eq]
  exact ⟨a, b⟩
theorem bOK_up {N : Nat} {f : Nat → Int32} (h : bOK N f) (j : Nat) (v : Int32) : bOK N (upd f j (vp_nar .byte v)) := fun i hi => by
  unfold upd
  split
  · rw [vp_nar_byte]
    exact i8_rng v
  · exact h i hi
theorem bOK_0 (N : Nat) : bOK N (fun _ => 0) := fun _ _ => rfl
theorem bOK_cpy {N0 N1 sp dp n : Nat} {f0 f1 : Nat → Int32} (h0 : bOK N0 f0) (h1 : bOK N1 f1) (h : sp + n ≤ N0) : bOK N1 (va_cpy f0 f1 sp dp n) := fun i hi => by
  unfold va_cpy
  split
  · exact h0 _ (by omega)
  · exact h1 i hi
theorem upw2 {w : Hw} {a : Nat} {o o' : Ob} : upw (upw w a o) a o' = upw w a o' := by
  funext q
  unfold upw
  split <;> rfl
theorem vpiN {a : Int32} {N : Nat} (h0 : (0 : Int) ≤ a.toInt) (h1 : a.toInt < (N : Int)) : vp_in a N := by
  rintro (h | h)
  · have := i32_lt h
    have e : (0 : Int32).toInt = 0 := rfl
    omega
  · have e1 : a.toNatClampNeg = a.toInt.toNat := rfl
    omega
theorem i32_neg {a : Int32} (h : ¬ a < 0) : (-a).toInt = -a.toInt := by
  have h1 := i32_0 h
  have h2 := i32_bd a
  rw [Int32.toInt_neg]
  exact Int.bmod_eq_of_le (by omega) (by omega)
theorem nn {a : Int32} : - -a = a := Int32.neg_neg
/-- where the digits lie; that a text is of bytes -/
def DG (g : RO) (w : Hw) : Prop := g.1 1 = .int 1 ∧ (∃ (a : Nat) (f : Nat → Int32), g.1 2 = .ref a ∧ g.2 a = some (.inl (2, 100, .inl f)) ∧ w a = none) ∧ ∃ (a : Nat) (f : Nat → Int32), g.1 3 = .ref a ∧ g.2 a = some (.inl (2, 100, .inl f)) ∧ w a = none
theorem rd_r {g : RO} {w : Hw} {a : Nat} {o : Ob} (h : g.2 a = some o) (k : w a = none) : rd g w a = some o := by
  unfold rd; rw [k]; exact h
theorem DG.ext {g : RO} {w w' : Hw} (h : DG g w) (k : ext g w w') : DG g w' := by
  obtain ⟨h1, ⟨a, f, h2, h3, h4⟩, ⟨b, f', h5, h6, h7⟩⟩ := h
  exact ⟨h1, ⟨a, f, h2, h3, k.2 a _ h3 h4⟩, ⟨b, f', h5, h6, k.2 b _ h6 h7⟩⟩
theorem ss1 {a : Int32} (k0 : ¬ a < 0) (k1 : a < 10) : (-10 < -a) = True := eq_true (i32_of_lt (by
  rw [i32_neg k0]
  have e : (-10 : Int32).toInt = -10 := by decide
  have e2 : (10 : Int32).toInt = 10 := rfl
  have := i32_lt k1
  omega))
theorem ss2 {a : Int32} (k0 : ¬ a < 0) (k1 : a < 10) : (-100 < -a) = True := eq_true (i32_of_lt (by
  rw [i32_neg k0]
  have e : (-100 : Int32).toInt = -100 := by decide
  have e2 : (10 : Int32).toInt = 10 := rfl
  have := i32_lt k1
  omega))
theorem ss3 {a : Int32} (k0 : ¬ a < 0) (k1 : a < 10) : (-a < -9) = False := eq_false (i32_of_nlt (by
  rw [i32_neg k0]
  have e : (-9 : Int32).toInt = -9 := by decide
  have e2 : (10 : Int32).toInt = 10 := rfl
  have := i32_lt k1
  omega))
theorem s10 : ((1 : Int32) < 10) = True := eq_true (by decide)
theorem a10 : (1 : Int32) + 0 = 1 := rfl
set_option maxHeartbeats 4000000 in
theorem sJ6_stringSize_0f7a4 {a : Int32} (k0 : ¬ a < 0) (k1 : a < 10) (hQ : Q (.inl (some (.int 1))) w) : WP (MJ6_stringSize_0f7a4 g) Q (0, [some (.int a), none, none, none], [], w, 0, 0) := by
  have e0 : (a < 0) = False := eq_false k0
  simp only [eJ6_stringSize_0f7a4_0, eJ6_stringSize_0f7a4_2, eJ6_stringSize_0f7a4_6, eJ6_stringSize_0f7a4_8, eJ6_stringSize_0f7a4_11, e0, if_false, nl_int]
  with_reducible rw [eJ6_stringSize_0f7a4_16]
  simp only [eJ6_stringSize_0f7a4_17, eJ6_stringSize_0f7a4_22, eJ6_stringSize_0f7a4_27, eJ6_stringSize_0f7a4_31, eJ6_stringSize_0f7a4_42, ss1 k0 k1, s10, a10, if_true, ite_le, nl_int]
  with_reducible refine And.intro ?_ ?_
  omega
  with_reducible refine And.intro ?_ ?_
  omega
  with_reducible assumption
set_option maxHeartbeats 4000000 in
theorem sJ6_getChars_ba4f3 {a i : Int32} {d N : Nat} {f : Nat → Int32} (hd : w d = some (.inl (2, N, .inl f))) (hf : bOK N f) (hD : DG g w) (k0 : ¬ a < 0) (k1 : a < 10) (i0 : 0 < i.toInt) (i1 : i.toInt ≤ (N : Int)) (hQ : ∀ (f' : Nat → Int32) (v : Int32), bOK N f' → Q (.inl (some (.int v))) (upw w d (.inl (2, N, .inl f')))) : WP (MJ6_getChars_ba4f3 g) Q (0, [some (.int a), some (.int i), some (.ref d), none, none, none, none], [], w, 0, 0) := by
  have e0 : (a < 0) = False := eq_false k0
  obtain ⟨hc, ⟨a1, f1, g1, g2, g3⟩, ⟨a2, f2, g4, g5, g6⟩⟩ := hD
  have r1 := rd_r g2 g3
  have r2 := rd_r g5 g6
  have rdd := rd_e (g := g) hd
  have iv : vp_in (i + -1) N := by
    have bi := i32_bd i
    have e : (-1 : Int32).toInt = -1 := by decide
    have s : (i + -1).toInt = i.toInt - 1 := by
      rw [i32_add (by omega) (by omega), e]
      omega
    exact vpiN (by omega) (by omega)
  have av : vp_in a 100 := vpi k0 (Int32.lt_of_lt_of_le k1 (by decide) : a < 100) (by decide)
  simp only [eJ6_getChars_ba4f3_0, eJ6_getChars_ba4f3_7, eJ6_getChars_ba4f3_11, eJ6_getChars_ba4f3_12, eJ6_getChars_ba4f3_19, e0, if_true, if_false, ite_le, nl_int, nl_none]
  with_reducible rw [eJ6_getChars_ba4f3_22]
  simp only [eJ6_getChars_ba4f3_23, eJ6_getChars_ba4f3_28, eJ6_getChars_ba4f3_32, eJ6_getChars_ba4f3_41, eJ6_getChars_ba4f3_52, eJ6_getChars_ba4f3_55, eJ6_getChars_ba4f3_56, eJ6_getChars_ba4f3_65, eJ6_getChars_ba4f3_68, eJ6_getChars_ba4f3_69, eJ6_getChars_ba4f3_72, eJ6_getChars_ba4f3_83, eJ6_getChars_ba4f3_84, eJ6_getChars_ba4f3_85, eJ6_getChars_ba4f3_91, eJ6_getChars_ba4f3_102, eJ6_getChars_ba4f3_103, eJ6_getChars_ba4f3_104, eJ6_getChars_ba4f3_109, eJ6_getChars_ba4f3_118, ss2 k0 k1, ss3 k0 k1, nn, g1, g4, r1, hd, bty_2, if_true, if_false, ite_le, gb_s2, nl_int, nl_ref, nl_none, upw_s]
  with_reducible refine And.intro ?_ ?_
  with_reducible assumption
  with_reducible refine And.intro ?_ ?_
  with_reducible assumption
  with_reducible refine And.intro ?_ ?_
  omega
  with_reducible refine And.intro ?_ ?_
  omega
  with_reducible exact hQ _ _ (bOK_up hf _ _)
end
end
/-! 60.text1.lean.txt -/
section
section
variable {g : RO} {Q : Ot → Hw → Prop} {w0 w : Hw}
theorem p10 (n : Nat) (h : n ≤ 18) : (1 : Int) ≤ (10 : Int) ^ n ∧ (10 : Int) ^ n ≤ 1000000000000000000 := by
  match n, h with
  | 0, _ => exact ⟨by decide, by decide⟩
  | 1, _ => exact ⟨by decide, by decide⟩
  | 2, _ => exact ⟨by decide, by decide⟩
  | 3, _ => exact ⟨by decide, by decide⟩
  | 4, _ => exact ⟨by decide, by decide⟩
  | 5, _ => exact ⟨by decide, by decide⟩
  | 6, _ => exact ⟨by decide, by decide⟩
  | 7, _ => exact ⟨by decide, by decide⟩
  | 8, _ => exact ⟨by decide, by decide⟩
  | 9, _ => exact ⟨by decide, by decide⟩
  | 10, _ => exact ⟨by decide, by decide⟩
  | 11, _ => exact ⟨by decide, by decide⟩
  | 12, _ => exact ⟨by decide, by decide⟩
  | 13, _ => exact ⟨by decide, by decide⟩
  | 14, _ => exact ⟨by decide, by decide⟩
  | 15, _ => exact ⟨by decide, by decide⟩
  | 16, _ => exact ⟨by decide, by decide⟩
  | 17, _ => exact ⟨by decide, by decide⟩
  | 18, _ => exact ⟨by decide, by decide⟩
  | n + 19, h => omega
theorem p10s (n : Nat) : (10 : Int) ^ (n + 1) = 10 * (10 : Int) ^ n := by rw [Int.pow_succ]; omega
theorem p10p (n : Nat) : (0 : Int) < (10 : Int) ^ n := by
  induction n with
  | zero => decide
  | succ n ih => rw [p10s]; omega
theorem i64_bd (a : Int64) : -9223372036854775808 ≤ a.toInt ∧ a.toInt ≤ 9223372036854775807 := by
  have h1 := Int64.le_toInt a
  have h2 := Int64.toInt_lt a
  omega
theorem i64_mul10 {p : Int64} {n : Nat} (h : p.toInt = -((10 : Int) ^ n)) (hn : n + 1 ≤ 18) : (10 * p).toInt = -((10 : Int) ^ (n + 1)) := by
  have h1 := p10 (n + 1) hn
  have e : (10 : Int64).toInt = 10 := rfl
  rw [Int64.toInt_mul, e, h]
  rw [p10s] at h1 ⊢
  rw [Int.bmod_eq_of_le (by omega) (by omega)]
  omega
theorem i64_neg {a : Int64} (h : ¬ a.toInt = -9223372036854775808) : (-a).toInt = -a.toInt := by
  have h2 := i64_bd a
  rw [Int64.toInt_neg]
  exact Int.bmod_eq_of_le (by omega) (by omega)
theorem i64_lt {a b : Int64} (h : a < b) : a.toInt < b.toInt := Int64.lt_iff_toInt_lt.mp h
theorem i64_nlt {a b : Int64} (h : ¬ a < b) : b.toInt ≤ a.toInt := Int64.le_iff_toInt_le.mp (Int64.not_lt.mp h)
theorem lt_f {a b : Int32} (h : b.toInt ≤ a.toInt) : (a < b) = False := eq_false (i32_of_nlt h)
theorem lt_t {a b : Int32} (h : a.toInt < b.toInt) : (a < b) = True := eq_true (i32_of_lt h)
set_option maxHeartbeats 4000000 in
theorem lJ13_ss {x : Int64} {dd : Int32} (hd0 : 0 ≤ dd.toInt) (hd1 : dd.toInt ≤ 1) (hQ : ∀ (v : Int32) (kk : Nat), 1 ≤ kk → kk ≤ 19 → v.toInt = kk + dd.toInt → -((10 : Int) ^ kk) < x.toInt → Q (.inl (some (.int v))) w) :
    ∀ (e : Nat) (p : Int64) (i : Int32), i.toInt + e = 19 → 1 ≤ i.toInt → (i.toInt < 19 → p.toInt = -((10 : Int) ^ i.toInt.toNat)) → WP (MJ13_stringSize_95d88 g) Q (20, [some (.long x), none, some (.int dd), some (.long p), none, some (.int i)], [], w, 0, 0) := by
  intro e
  induction e with
  | zero =>
    intro p i hi h1 hp
    have e19 : (19 : Int32).toInt = 19 := rfl
    rw [eJ13_stringSize_95d88_20]
    simp only [eJ13_stringSize_95d88_0, eJ13_stringSize_95d88_8, eJ13_stringSize_95d88_13, eJ13_stringSize_95d88_22, eJ13_stringSize_95d88_27, eJ13_stringSize_95d88_33, eJ13_stringSize_95d88_38, eJ13_stringSize_95d88_50, ite_le, n45, n54, true_or, or_true, false_or, or_false, false_and, and_false, kx_l, kx_r, go_s, gl_s, gi_s, gb_s2, gb_s3, gq_s, wt_nil, wt_int, wt_long, wt_ref, wt_null, nl_int, nl_long, nl_ref, nl_null, nl_none, rf_n, rf_s, rf_st, tl_s, tl_n, g0, gS, ex1, nb_b, nb_0, nb_1, nf_i, nf_l, nf_ra, nf_ro, nf_na, nf_no, nf_b0, nf_z0, t45_4, t45_5, true_and, and_true, List.set_cons_zero, List.set_cons_succ, List.length_cons, List.length_nil, rd_s, upw_s, ne_eq, not_false_eq_true, Nat.zero_add, Nat.add_zero, if_true, if_false, lt_f (show (19 : Int32).toInt ≤ i.toInt by omega)]
    repeat' first | with_reducible refine And.intro ?_ ?_ | omega
    refine hQ _ 19 (by decide) (by decide) ?_ ?_
    · rw [i32_add (by omega) (by omega), e19]; rfl
    · have h3 := (i64_bd x).1
      have h4 : (10 : Int) ^ 19 = 10000000000000000000 := by decide
      omega
  | succ e ih =>
    intro p i hi h1 hp
    have e19 : (19 : Int32).toInt = 19 := rfl
    have hp := hp (by omega)
    rw [eJ13_stringSize_95d88_20]
    simp only [eJ13_stringSize_95d88_0, eJ13_stringSize_95d88_8, eJ13_stringSize_95d88_13, eJ13_stringSize_95d88_22, eJ13_stringSize_95d88_27, eJ13_stringSize_95d88_33, eJ13_stringSize_95d88_38, eJ13_stringSize_95d88_50, ite_le, n45, n54, true_or, or_true, false_or, or_false, false_and, and_false, kx_l, kx_r, go_s, gl_s, gi_s, gb_s2, gb_s3, gq_s, wt_nil, wt_int, wt_long, wt_ref, wt_null, nl_int, nl_long, nl_ref, nl_null, nl_none, rf_n, rf_s, rf_st, tl_s, tl_n, g0, gS, ex1, nb_b, nb_0, nb_1, nf_i, nf_l, nf_ra, nf_ro, nf_na, nf_no, nf_b0, nf_z0, t45_4, t45_5, true_and, and_true, List.set_cons_zero, List.set_cons_succ, List.length_cons, List.length_nil, rd_s, upw_s, ne_eq, not_false_eq_true, Nat.zero_add, Nat.add_zero, if_true, if_false, lt_t (show i.toInt < (19 : Int32).toInt by omega), lg_cmp_gt]
    split
    · next hlt =>
      have h5 := i64_lt hlt
      repeat' first | with_reducible refine And.intro ?_ ?_ | omega
      refine hQ _ i.toInt.toNat (by omega) (by omega) ?_ (by omega)
      rw [i32_add (by omega) (by omega)]
      omega
    · have e1 : (i + 1).toInt = i.toInt + 1 := i32_add (by show -2147483648 ≤ i.toInt + 1; omega) (by show i.toInt + 1 ≤ 2147483647; omega)
      refine ih _ _ (by omega) (by omega) (fun h => ?_)
      rw [i64_mul10 hp (by omega), e1]
      congr 2
      omega
set_option maxHeartbeats 4000000 in
theorem sJ13_stringSize_95d88 {a : Int64} (hQ : ∀ (v : Int32) (kk : Nat), 1 ≤ kk → kk ≤ 19 → (v.toInt = kk + (if a.toInt < 0 then 1 else 0)) → -((10 : Int) ^ kk) < a.toInt → a.toInt < (10 : Int) ^ kk → Q (.inl (some (.int v))) w) : WP (MJ13_stringSize_95d88 g) Q (0, [some (.long a), none, none, none, none, none], [], w, 0, 0) := by
  have e1 : (1 : Int32).toInt = 1 := rfl
  have e0 : (0 : Int32).toInt = 0 := rfl
  have z0 : (0 : Int64).toInt = 0 := rfl
  have m10 : (-10 : Int64).toInt = -10 := by decide
  simp only [eJ13_stringSize_95d88_0, eJ13_stringSize_95d88_8, eJ13_stringSize_95d88_13, eJ13_stringSize_95d88_22, eJ13_stringSize_95d88_27, eJ13_stringSize_95d88_33, eJ13_stringSize_95d88_38, eJ13_stringSize_95d88_50, ite_le, n45, n54, true_or, or_true, false_or, or_false, false_and, and_false, kx_l, kx_r, go_s, gl_s, gi_s, gb_s2, gb_s3, gq_s, wt_nil, wt_int, wt_long, wt_ref, wt_null, nl_int, nl_long, nl_ref, nl_null, nl_none, rf_n, rf_s, rf_st, tl_s, tl_n, g0, gS, ex1, nb_b, nb_0, nb_1, nf_i, nf_l, nf_ra, nf_ro, nf_na, nf_no, nf_b0, nf_z0, t45_4, t45_5, true_and, and_true, List.set_cons_zero, List.set_cons_succ, List.length_cons, List.length_nil, rd_s, upw_s, ne_eq, not_false_eq_true, Nat.zero_add, Nat.add_zero, if_true, if_false, lg_cmp_lt]
  split
  · next h =>
    have h1 := i64_lt h
    refine lJ13_ss (by decide) (by decide) (fun v kk k1 k2 k3 k4 => hQ v kk k1 k2 (by rw [if_pos (by omega)]; omega) k4 (by have := p10p kk; omega)) 18 _ _ (by decide) (by decide) (fun _ => by rw [m10]; rfl)
  · next h =>
    have h1 := i64_nlt h
    have hn : (-a).toInt = -a.toInt := i64_neg (by omega)
    refine lJ13_ss (by decide) (by decide) (fun v kk k1 k2 k3 k4 => hQ v kk k1 k2 (by rw [if_neg (by omega)]; omega) (by have := p10p kk; omega) (by omega)) 18 _ _ (by decide) (by decide) (fun _ => by rw [m10]; rfl)
end
end
/-! 60.text2.lean.txt -/
section
section
variable {g : RO} {Q : Ot → Hw → Prop} {w0 w : Hw}
theorem DG.upd {g : RO} {w : Hw} {d : Nat} {o o' : Ob} (h : DG g w) (hd : w d = some o) : DG g (upw w d o') := by
  obtain ⟨h1, ⟨a, f, h2, h3, h4⟩, ⟨b, f', h5, h6, h7⟩⟩ := h
  refine ⟨h1, ⟨a, f, h2, h3, ?_⟩, ⟨b, f', h5, h6, ?_⟩⟩
  · rw [upw_n]
    · exact h4
    · rintro rfl
      rw [h4] at hd
      cases hd
  · rw [upw_n]
    · exact h7
    · rintro rfl
      rw [h7] at hd
      cases hd
theorem tn100 : (¬ (100 : Int32) = 0) = True := eq_true (by decide)
theorem tn100l : (¬ (100 : Int64) = 0) = True := eq_true (by decide)
theorem neg_tdiv100 {y : Int} (h : y ≤ 0) : y.tdiv 100 = -((-y) / 100) := by
  obtain ⟨n, rfl⟩ : ∃ n : Int, y = -n := ⟨-y, by omega⟩
  rw [Int.neg_tdiv, Int.tdiv_eq_ediv_of_nonneg (by omega), Int.neg_neg]
theorem i32_d100 {y : Int32} (h : y.toInt ≤ 0) : (y / 100).toInt = -((-y.toInt) / 100) := by
  have e : (100 : Int32).toInt = 100 := rfl
  have h2 := i32_bd y
  rw [Int32.toInt_div, e, neg_tdiv100 h]
  exact Int.bmod_eq_of_le (by omega) (by omega)
theorem i32_r100 {y : Int32} (h : y.toInt ≤ 0) : (y / 100 * 100 - y).toInt = -y.toInt - (-y.toInt) / 100 * 100 := by
  have e : (100 : Int32).toInt = 100 := rfl
  have h2 := i32_bd y
  have m : (y / 100 * 100).toInt = -((-y.toInt) / 100) * 100 := by
    rw [Int32.toInt_mul, e, i32_d100 h]
    exact Int.bmod_eq_of_le (by omega) (by omega)
  rw [i32_sub (by omega) (by omega), m]
  omega
theorem i64_d100 {y : Int64} (h : y.toInt ≤ 0) : (y / 100).toInt = -((-y.toInt) / 100) := by
  have e : (100 : Int64).toInt = 100 := rfl
  have h2 := i64_bd y
  rw [Int64.toInt_div, e, neg_tdiv100 h]
  exact Int.bmod_eq_of_le (by omega) (by omega)
theorem i64_r100 {y : Int64} (h : y.toInt ≤ 0) : (y / 100 * 100 - y).toInt32.toInt = -y.toInt - (-y.toInt) / 100 * 100 := by
  have e : (100 : Int64).toInt = 100 := rfl
  have h2 := i64_bd y
  have m : (y / 100 * 100).toInt = -((-y.toInt) / 100) * 100 := by
    rw [Int64.toInt_mul, e, i64_d100 h]
    exact Int.bmod_eq_of_le (by omega) (by omega)
  have s : (y / 100 * 100 - y).toInt = -y.toInt - (-y.toInt) / 100 * 100 := by
    rw [Int64.toInt_sub, m, Int.bmod_eq_of_le (by omega) (by omega)]
    omega
  rw [Int64.toInt_toInt32, s]
  exact Int.bmod_eq_of_le (by omega) (by omega)
theorem i64_i32 {y : Int64} (h : -2147483648 < y.toInt) (h2 : y.toInt ≤ 0) : y.toInt32.toInt = y.toInt := by
  rw [Int64.toInt_toInt32]
  exact Int.bmod_eq_of_le (by omega) (by omega)
theorem i32_m1 {i : Int32} (h : -2147483648 < i.toInt) : (i + -1).toInt = i.toInt - 1 := by
  have h2 := i32_bd i
  have e : (-1 : Int32).toInt = -1 := by decide
  rw [i32_add (by omega) (by omega), e]
  omega
theorem i32_ngl {y : Int32} (h : y.toInt ≤ 0) (h2 : -2147483648 < y.toInt) : (-y).toInt = -y.toInt := by
  rw [Int32.toInt_neg]
  exact Int.bmod_eq_of_le (by omega) (by omega)
theorem i32_ne0 {y : Int32} (h : ¬ y = 0) : ¬ y.toInt = 0 := fun k => h (Int32.toInt_inj.mp k)
theorem p10_3 {kk : Nat} {n : Int} (h : n < (10 : Int) ^ kk) (h2 : 100 ≤ n) : ∃ k', kk = k' + 2 ∧ 1 ≤ k' ∧ n / 100 < (10 : Int) ^ k' := by
  match kk, h with
  | 0, h => have e : (10 : Int) ^ 0 = 1 := rfl
            omega
  | 1, h => have e : (10 : Int) ^ 1 = 10 := rfl
            omega
  | 2, h => have e : (10 : Int) ^ 2 = 100 := rfl
            omega
  | k + 3, h =>
    refine ⟨k + 1, rfl, by omega, ?_⟩
    rw [p10s, p10s] at h
    omega
set_option maxHeartbeats 8000000 in
theorem lJ13_gc86 {x : Int64} {ix : Int32} {d N : Nat} (hN : N ≤ 2000) : ∀ (e kk : Nat) (y cp ng : Int32) (l4 l5 l6 l9 : Option Value) (f : Nat → Int32) (w : Hw), kk ≤ e → 1 ≤ kk → y.toInt ≤ 0 → -((10 : Int) ^ kk) < y.toInt → 0 ≤ ng.toInt → ng.toInt ≤ 1 → kk + ng.toInt ≤ cp.toInt → cp.toInt ≤ (N : Int) → w d = some (.inl (2, N, .inl f)) → bOK N f → DG g w →
    (∀ (f' : Nat → Int32) (v : Int32), bOK N f' → Q (.inl (some (.int v))) (upw w d (.inl (2, N, .inl f')))) → WP (MJ13_getChars_11360 g) Q (86, [some (.long x), none, some (.int ix), some (.ref d), l4, l5, l6, some (.int cp), some (.int ng), l9, some (.int y)], [], w, 0, 0) := by
  intro e
  induction e with
  | zero =>
    intro kk y cp ng l4 l5 l6 l9 f w h1 h2
    exfalso
    omega
  | succ e ih =>
    intro kk y cp ng l4 l5 l6 l9 f w h1 h2 h3 h4 h5 h6 h7 h8 hd hf hD hQ
    obtain ⟨hcs, ⟨a1, f1, g1, g2, g3⟩, ⟨a2, f2, g4, g5, g6⟩⟩ := id hD
    have r1 := rd_r g2 g3
    have r2 := rd_r g5 g6
    have rdd := rd_e (g := g) hd
    have n1 : a1 ≠ d := fun e => by
      rw [e, hd] at g3
      cases g3
    have n2 : a2 ≠ d := fun e => by
      rw [e, hd] at g6
      cases g6
    have e100 : (-100 : Int32).toInt = -100 := by decide
    have e9 : (-9 : Int32).toInt = -9 := by decide
    obtain ⟨p1, hp1⟩ : ∃ p1, cp + -1 = p1 := ⟨_, rfl⟩
    obtain ⟨p2, hp2⟩ : ∃ p2, p1 + -1 = p2 := ⟨_, rfl⟩
    obtain ⟨p3, hp3⟩ : ∃ p3, p2 + -1 = p3 := ⟨_, rfl⟩
    have c1 : p1.toInt = cp.toInt - 1 := by rw [← hp1]; exact i32_m1 (by omega)
    have c2 : p2.toInt = p1.toInt - 1 := by rw [← hp2]; exact i32_m1 (by omega)
    have c3 : p3.toInt = p2.toInt - 1 := by rw [← hp3]; exact i32_m1 (by omega)
    have iv1 : vp_in p1 N := vpiN (by omega) (by omega)
    rw [eJ13_getChars_11360_86]
    simp only [eJ13_getChars_11360_0, eJ13_getChars_11360_9, eJ13_getChars_11360_13, eJ13_getChars_11360_14, eJ13_getChars_11360_21, eJ13_getChars_11360_25, eJ13_getChars_11360_32, eJ13_getChars_11360_37, eJ13_getChars_11360_53, eJ13_getChars_11360_53N, eJ13_getChars_11360_54, eJ13_getChars_11360_62, eJ13_getChars_11360_65, eJ13_getChars_11360_66, eJ13_getChars_11360_66N, eJ13_getChars_11360_67, eJ13_getChars_11360_75, eJ13_getChars_11360_78, eJ13_getChars_11360_79, eJ13_getChars_11360_82, eJ13_getChars_11360_88, eJ13_getChars_11360_93, eJ13_getChars_11360_98, eJ13_getChars_11360_114, eJ13_getChars_11360_114N, eJ13_getChars_11360_115, eJ13_getChars_11360_123, eJ13_getChars_11360_126, eJ13_getChars_11360_127, eJ13_getChars_11360_127N, eJ13_getChars_11360_128, eJ13_getChars_11360_136, eJ13_getChars_11360_139, eJ13_getChars_11360_140, eJ13_getChars_11360_143, eJ13_getChars_11360_143N, eJ13_getChars_11360_144, eJ13_getChars_11360_155, eJ13_getChars_11360_156, eJ13_getChars_11360_157, eJ13_getChars_11360_164, eJ13_getChars_11360_164N, eJ13_getChars_11360_165, eJ13_getChars_11360_176, eJ13_getChars_11360_177, eJ13_getChars_11360_178, eJ13_getChars_11360_183, eJ13_getChars_11360_183N, eJ13_getChars_11360_184, eJ13_getChars_11360_192, ite_le, n45, n54, true_or, or_true, false_or, or_false, false_and, and_false, kx_l, kx_r, go_s, gl_s, gi_s, gb_s2, gb_s3, gq_s, wt_nil, wt_int, wt_long, wt_ref, wt_null, nl_int, nl_long, nl_ref, nl_null, nl_none, rf_n, rf_s, rf_st, tl_s, tl_n, g0, gS, ex1, nb_b, nb_0, nb_1, nf_i, nf_l, nf_ra, nf_ro, nf_na, nf_no, nf_b0, nf_z0, t45_4, t45_5, true_and, and_true, List.set_cons_zero, List.set_cons_succ, List.length_cons, List.length_nil, rd_s, upw_s, ne_eq, not_false_eq_true, Nat.zero_add, Nat.add_zero, if_true, if_false, g1, g4, r1, r2, hd, rdd, bty_2, upw2, rd_n, n1, n2, lg_cmp_gt, lg_cmp_lt, tn100, tn100l, hp1, hp2, hp3]
    split
    · next hy =>
      have hy := i32_lt hy
      have av : vp_in (-y) 100 := vpiN (by rw [i32_ngl h3 (by omega)]; omega) (by rw [i32_ngl h3 (by omega)]; omega)
      refine ⟨av, iv1, ?_⟩
      split
      · next hz =>
        have hz := i32_lt hz
        have k2 : 2 ≤ kk := by
          rcases Nat.lt_or_ge kk 2 with q | q
          · have q1 : kk = 1 := by omega
            subst q1
            have e1 : (10 : Int) ^ 1 = 10 := rfl
            omega
          · exact q
        refine ⟨av, vpiN (by omega) (by omega), ?_⟩
        split
        · repeat' first | with_reducible refine And.intro ?_ ?_ | omega
          refine hQ _ _ ?_
          repeat' first | assumption | apply bOK_up
        · next hng =>
          have := i32_ne0 hng
          refine ⟨vpiN (by omega) (by omega), ?_⟩
          repeat' first | with_reducible refine And.intro ?_ ?_ | omega
          refine hQ _ _ ?_
          repeat' first | assumption | apply bOK_up
      · split
        · repeat' first | with_reducible refine And.intro ?_ ?_ | omega
          refine hQ _ _ ?_
          repeat' first | assumption | apply bOK_up
        · next hng =>
          have := i32_ne0 hng
          refine ⟨vpiN (by omega) (by omega), ?_⟩
          repeat' first | with_reducible refine And.intro ?_ ?_ | omega
          refine hQ _ _ ?_
          repeat' first | assumption | apply bOK_up
    · next hy =>
      have hy := i32_nlt hy
      obtain ⟨k', rfl, k1, k3⟩ := p10_3 (kk := kk) (n := -y.toInt) (by omega) (by omega)
      have rr : vp_in (y / 100 * 100 - y) 100 := vpiN (by rw [i32_r100 h3]; omega) (by rw [i32_r100 h3]; omega)
      refine ⟨rr, iv1, rr, vpiN (by omega) (by omega), ?_⟩
      refine ih k' _ _ _ _ _ _ _ _ _ (by omega) k1 (by rw [i32_d100 h3]; omega) (by rw [i32_d100 h3]; omega) h5 h6 (by omega) (by omega) (upw_s _ _ _) ?_ (hD.upd hd) ?_
      · repeat' first | assumption | apply bOK_up
      · intro f' v hf'
        rw [upw2]
        exact hQ f' v hf'
set_option maxHeartbeats 8000000 in
theorem lJ13_gc24 {ix : Int32} {d N : Nat} (hN : N ≤ 2000) : ∀ (e kk : Nat) (x : Int64) (cp ng : Int32) (l4 l5 l6 : Option Value) (f : Nat → Int32) (w : Hw), kk ≤ e → 1 ≤ kk → x.toInt ≤ 0 → -((10 : Int) ^ kk) < x.toInt → 0 ≤ ng.toInt → ng.toInt ≤ 1 → kk + ng.toInt ≤ cp.toInt → cp.toInt ≤ (N : Int) → w d = some (.inl (2, N, .inl f)) → bOK N f → DG g w →
    (∀ (f' : Nat → Int32) (v : Int32), bOK N f' → Q (.inl (some (.int v))) (upw w d (.inl (2, N, .inl f')))) → WP (MJ13_getChars_11360 g) Q (24, [some (.long x), none, some (.int ix), some (.ref d), l4, l5, l6, some (.int cp), some (.int ng), none, none], [], w, 0, 0) := by
  intro e
  induction e with
  | zero =>
    intro kk x cp ng l4 l5 l6 f w h1 h2
    exfalso
    omega
  | succ e ih =>
    intro kk x cp ng l4 l5 l6 f w h1 h2 h3 h4 h5 h6 h7 h8 hd hf hD hQ
    obtain ⟨hcs, ⟨a1, f1, g1, g2, g3⟩, ⟨a2, f2, g4, g5, g6⟩⟩ := id hD
    have r1 := rd_r g2 g3
    have r2 := rd_r g5 g6
    have rdd := rd_e (g := g) hd
    have n1 : a1 ≠ d := fun e => by
      rw [e, hd] at g3
      cases g3
    have n2 : a2 ≠ d := fun e => by
      rw [e, hd] at g6
      cases g6
    have emin : (-2147483648 : Int64).toInt = -2147483648 := by decide
    obtain ⟨p1, hp1⟩ : ∃ p1, cp + -1 = p1 := ⟨_, rfl⟩
    obtain ⟨p2, hp2⟩ : ∃ p2, p1 + -1 = p2 := ⟨_, rfl⟩
    have c1 : p1.toInt = cp.toInt - 1 := by rw [← hp1]; exact i32_m1 (by omega)
    have c2 : p2.toInt = p1.toInt - 1 := by rw [← hp2]; exact i32_m1 (by omega)
    have iv1 : vp_in p1 N := vpiN (by omega) (by omega)
    rw [eJ13_getChars_11360_24]
    simp only [eJ13_getChars_11360_0, eJ13_getChars_11360_9, eJ13_getChars_11360_13, eJ13_getChars_11360_14, eJ13_getChars_11360_21, eJ13_getChars_11360_25, eJ13_getChars_11360_32, eJ13_getChars_11360_37, eJ13_getChars_11360_53, eJ13_getChars_11360_53N, eJ13_getChars_11360_54, eJ13_getChars_11360_62, eJ13_getChars_11360_65, eJ13_getChars_11360_66, eJ13_getChars_11360_66N, eJ13_getChars_11360_67, eJ13_getChars_11360_75, eJ13_getChars_11360_78, eJ13_getChars_11360_79, eJ13_getChars_11360_82, eJ13_getChars_11360_88, eJ13_getChars_11360_93, eJ13_getChars_11360_98, eJ13_getChars_11360_114, eJ13_getChars_11360_114N, eJ13_getChars_11360_115, eJ13_getChars_11360_123, eJ13_getChars_11360_126, eJ13_getChars_11360_127, eJ13_getChars_11360_127N, eJ13_getChars_11360_128, eJ13_getChars_11360_136, eJ13_getChars_11360_139, eJ13_getChars_11360_140, eJ13_getChars_11360_143, eJ13_getChars_11360_143N, eJ13_getChars_11360_144, eJ13_getChars_11360_155, eJ13_getChars_11360_156, eJ13_getChars_11360_157, eJ13_getChars_11360_164, eJ13_getChars_11360_164N, eJ13_getChars_11360_165, eJ13_getChars_11360_176, eJ13_getChars_11360_177, eJ13_getChars_11360_178, eJ13_getChars_11360_183, eJ13_getChars_11360_183N, eJ13_getChars_11360_184, eJ13_getChars_11360_192, ite_le, n45, n54, true_or, or_true, false_or, or_false, false_and, and_false, kx_l, kx_r, go_s, gl_s, gi_s, gb_s2, gb_s3, gq_s, wt_nil, wt_int, wt_long, wt_ref, wt_null, nl_int, nl_long, nl_ref, nl_null, nl_none, rf_n, rf_s, rf_st, tl_s, tl_n, g0, gS, ex1, nb_b, nb_0, nb_1, nf_i, nf_l, nf_ra, nf_ro, nf_na, nf_no, nf_b0, nf_z0, t45_4, t45_5, true_and, and_true, List.set_cons_zero, List.set_cons_succ, List.length_cons, List.length_nil, rd_s, upw_s, ne_eq, not_false_eq_true, Nat.zero_add, Nat.add_zero, if_true, if_false, g1, g4, r1, r2, hd, rdd, bty_2, upw2, rd_n, n1, n2, lg_cmp_gt, lg_cmp_lt, tn100, tn100l, hp1, hp2]
    split
    · next hy =>
      have hy := i64_lt hy
      have ey := i64_i32 (y := x) (by omega) h3
      exact lJ13_gc86 hN kk kk _ _ _ _ _ _ _ _ _ (Nat.le_refl _) h2 (by omega) (by omega) h5 h6 h7 h8 hd hf hD hQ
    · next hy =>
      have hy := i64_nlt hy
      obtain ⟨k', rfl, k1, k3⟩ := p10_3 (kk := kk) (n := -x.toInt) (by omega) (by omega)
      have rr : vp_in (x / 100 * 100 - x).toInt32 100 := vpiN (by rw [i64_r100 h3]; omega) (by rw [i64_r100 h3]; omega)
      refine ⟨rr, iv1, rr, vpiN (by omega) (by omega), ?_⟩
      refine ih k' _ _ _ _ _ _ _ _ (by omega) k1 (by rw [i64_d100 h3]; omega) (by rw [i64_d100 h3]; omega) h5 h6 (by omega) (by omega) (upw_s _ _ _) ?_ (hD.upd hd) ?_
      · repeat' first | assumption | apply bOK_up
      · intro f' v hf'
        rw [upw2]
        exact hQ f' v hf'
set_option maxHeartbeats 4000000 in
theorem sJ13_getChars_11360 {a : Int64} {ix : Int32} {d N kk : Nat} {f : Nat → Int32} (hN : N ≤ 2000) (k1 : 1 ≤ kk) (ha : -((10 : Int) ^ kk) < a.toInt) (hb : a.toInt < (10 : Int) ^ kk) (hi : kk + (if a.toInt < 0 then 1 else 0) ≤ ix.toInt) (hi2 : ix.toInt ≤ (N : Int)) (hd : w d = some (.inl (2, N, .inl f))) (hf : bOK N f) (hD : DG g w) (hQ : ∀ (f' : Nat → Int32) (v : Int32), bOK N f' → Q (.inl (some (.int v))) (upw w d (.inl (2, N, .inl f')))) : WP (MJ13_getChars_11360 g) Q (0, [some (.long a), none, some (.int ix), some (.ref d), none, none, none, none, none, none, none], [], w, 0, 0) := by
  have z0 : (0 : Int64).toInt = 0 := rfl
  have e1 : (1 : Int32).toInt = 1 := rfl
  have e0 : (0 : Int32).toInt = 0 := rfl
  have t1 : ((1 : Int32) = 0) = False := eq_false (by decide)
  simp only [eJ13_getChars_11360_0, eJ13_getChars_11360_9, eJ13_getChars_11360_13, eJ13_getChars_11360_14, eJ13_getChars_11360_21, eJ13_getChars_11360_25, eJ13_getChars_11360_32, eJ13_getChars_11360_37, eJ13_getChars_11360_53, eJ13_getChars_11360_53N, eJ13_getChars_11360_54, eJ13_getChars_11360_62, eJ13_getChars_11360_65, eJ13_getChars_11360_66, eJ13_getChars_11360_66N, eJ13_getChars_11360_67, eJ13_getChars_11360_75, eJ13_getChars_11360_78, eJ13_getChars_11360_79, eJ13_getChars_11360_82, eJ13_getChars_11360_88, eJ13_getChars_11360_93, eJ13_getChars_11360_98, eJ13_getChars_11360_114, eJ13_getChars_11360_114N, eJ13_getChars_11360_115, eJ13_getChars_11360_123, eJ13_getChars_11360_126, eJ13_getChars_11360_127, eJ13_getChars_11360_127N, eJ13_getChars_11360_128, eJ13_getChars_11360_136, eJ13_getChars_11360_139, eJ13_getChars_11360_140, eJ13_getChars_11360_143, eJ13_getChars_11360_143N, eJ13_getChars_11360_144, eJ13_getChars_11360_155, eJ13_getChars_11360_156, eJ13_getChars_11360_157, eJ13_getChars_11360_164, eJ13_getChars_11360_164N, eJ13_getChars_11360_165, eJ13_getChars_11360_176, eJ13_getChars_11360_177, eJ13_getChars_11360_178, eJ13_getChars_11360_183, eJ13_getChars_11360_183N, eJ13_getChars_11360_184, eJ13_getChars_11360_192, ite_le, n45, n54, true_or, or_true, false_or, or_false, false_and, and_false, kx_l, kx_r, go_s, gl_s, gi_s, gb_s2, gb_s3, gq_s, wt_nil, wt_int, wt_long, wt_ref, wt_null, nl_int, nl_long, nl_ref, nl_null, nl_none, rf_n, rf_s, rf_st, tl_s, tl_n, g0, gS, ex1, nb_b, nb_0, nb_1, nf_i, nf_l, nf_ra, nf_ro, nf_na, nf_no, nf_b0, nf_z0, t45_4, t45_5, true_and, and_true, List.set_cons_zero, List.set_cons_succ, List.length_cons, List.length_nil, rd_s, upw_s, ne_eq, not_false_eq_true, Nat.zero_add, Nat.add_zero, if_true, if_false, lg_cmp_gt, lg_cmp_lt, t1]
  split
  · next h =>
    have h1 := i64_lt h
    rw [if_pos (by omega)] at hi
    exact lJ13_gc24 hN kk kk _ _ _ _ _ _ _ _ (Nat.le_refl _) k1 (by omega) ha (by decide) (by decide) (by omega) hi2 hd hf hD hQ
  · next h =>
    have h1 := i64_nlt h
    have hn : (-a).toInt = -a.toInt := i64_neg (by omega)
    rw [if_neg (by omega)] at hi
    exact lJ13_gc24 hN kk kk _ _ _ _ _ _ _ _ (Nat.le_refl _) k1 (by omega) (by omega) (by decide) (by decide) (by omega) hi2 hd hf hD hQ
end
end
/-! 60.text3.lean.txt -/
section
section
variable {g : RO} {Q : Ot → Hw → Prop} {w0 w : Hw}
theorem al26 : ((2 : Nat) < 6) = True := eq_true (by decide)
/-- numbers of the JDK's own -/
def SG (g : RO) : Prop := g.1 1 = .int 1 ∧ g.1 30 = .int 2147483639 ∧ g.1 32 = .int 2147483647
theorem shl0 {a : Int32} : a <<< ((0 : Int32) &&& 31) = a := by
  have e : ((0 : Int32) &&& 31) = 0 := rfl
  rw [e]
  simp
theorem shr0 {a : Int32} : a >>> ((0 : Int32) &&& 31) = a := by
  have e : ((0 : Int32) &&& 31) = 0 := rfl
  rw [e]
  simp
theorem ofN {N : Nat} (h : N ≤ 5000) : (Int32.ofNat N).toInt = (N : Int) := Int32.toInt_ofNat_of_lt (by omega)
theorem nl_val {N : Nat} {m : Int32} (hN : N ≤ 1000) (h1 : (N : Int) < m.toInt) (h2 : m.toInt ≤ 2000) : (Int32.ofNat N + (if m - Int32.ofNat N < Int32.ofNat N + 2 then Int32.ofNat N + 2 else m - Int32.ofNat N)).toInt = max m.toInt (2 * (N : Int) + 2) := by
  have e := ofN (N := N) (by omega)
  have e2 : (2 : Int32).toInt = 2 := rfl
  have s1 : (m - Int32.ofNat N).toInt = m.toInt - N := by rw [i32_sub (by omega) (by omega), e]
  have s2 : (Int32.ofNat N + 2).toInt = (N : Int) + 2 := by rw [i32_add (by omega) (by omega), e, e2]
  split
  · next h =>
    have h3 := i32_lt h
    rw [i32_add (by omega) (by omega)]
    omega
  · next h =>
    have h3 := i32_nlt h
    rw [i32_add (by omega) (by omega)]
    omega
set_option maxHeartbeats 4000000 in
theorem sJ8_newLength_cabcc {a0 a1 a2 : Int32} (hS : SG g) (h1 : 0 < (a0 + (if a1 < a2 then a2 else a1)).toInt) (h2 : (a0 + (if a1 < a2 then a2 else a1)).toInt ≤ 2147483639) (hQ : Q (.inl (some (.int (a0 + (if a1 < a2 then a2 else a1))))) w) : WP (MJ8_newLength_cabcc g) Q (0, [some (.int a0), some (.int a1), some (.int a2), none], [], w, 0, 0) := by
  obtain ⟨s1, s2, s3⟩ := hS
  generalize hv : a0 + (if a1 < a2 then a2 else a1) = v at h1 h2 hQ
  have t1 : (0 < v) = True := lt_t h1
  have t2 : (2147483639 < v) = False := lt_f h2
  simp only [eJ8_newLength_cabcc_0, eJ8_newLength_cabcc_6, eJ8_newLength_cabcc_13, eJ8_newLength_cabcc_16, eJ8_newLength_cabcc_19, eJ8_newLength_cabcc_21, eJ8_newLength_cabcc_26, ite_le, n45, n54, true_or, or_true, false_or, or_false, false_and, and_false, kx_l, kx_r, go_s, gl_s, gi_s, gb_s2, gb_s3, gq_s, wt_nil, wt_int, wt_long, wt_ref, wt_null, nl_int, nl_long, nl_ref, nl_null, nl_none, rf_n, rf_s, rf_st, tl_s, tl_n, g0, gS, ex1, nb_b, nb_0, nb_1, nf_i, nf_l, nf_ra, nf_ro, nf_na, nf_no, nf_b0, nf_z0, t45_4, t45_5, true_and, and_true, List.set_cons_zero, List.set_cons_succ, List.length_cons, List.length_nil, rd_s, upw_s, ne_eq, not_false_eq_true, Nat.zero_add, Nat.add_zero, if_true, if_false, s2, hv, t1, t2]
  repeat' first | with_reducible refine And.intro ?_ ?_ | omega
  all_goals assumption
set_option maxHeartbeats 4000000 in
theorem sJ5_newCapacity_0f7a4 {b d N : Nat} {c ml m : Int32} {f : Nat → Int32} (hS : SG g) (rb : rd g w b = some (.inr (1, [.ref d, .int 0, .int ml, .int c]))) (rdd : rd g w d = some (.inl (2, N, .inl f))) (hN : N ≤ 1000) (h1 : (N : Int) < m.toInt) (h2 : m.toInt ≤ 2000) (hQ : ∀ v : Int32, v.toInt = max m.toInt (2 * (N : Int) + 2) → Q (.inl (some (.int v))) w) : WP (MJ5_newCapacity_0f7a4 g) Q (0, [some (.ref b), some (.int m), none, none, none, none], [], w, 0, 0) := by
  have e := nl_val hN h1 h2
  have e2 : (2 : Int32) <<< ((0 : Int32) &&& 31) = 2 := shl0
  simp only [eJ5_newCapacity_0f7a4_0, eJ5_newCapacity_0f7a4_0N, eJ5_newCapacity_0f7a4_1, eJ5_newCapacity_0f7a4_4, eJ5_newCapacity_0f7a4_5, eJ5_newCapacity_0f7a4_6, eJ5_newCapacity_0f7a4_7, eJ5_newCapacity_0f7a4_7N, eJ5_newCapacity_0f7a4_8, eJ5_newCapacity_0f7a4_11, eJ5_newCapacity_0f7a4_14, eJ5_newCapacity_0f7a4_23, eJ5_newCapacity_0f7a4_23N, eJ5_newCapacity_0f7a4_24, eJ5_newCapacity_0f7a4_27, eJ5_newCapacity_0f7a4_32, eJ5_newCapacity_0f7a4_38, eJ5_newCapacity_0f7a4_51, eJ5_newCapacity_0f7a4_53, eJ5_newCapacity_0f7a4_53N, eJ5_newCapacity_0f7a4_54, eJ5_newCapacity_0f7a4_57, ite_le, n45, n54, true_or, or_true, false_or, or_false, false_and, and_false, kx_l, kx_r, go_s, gl_s, gi_s, gb_s2, gb_s3, gq_s, wt_nil, wt_int, wt_long, wt_ref, wt_null, nl_int, nl_long, nl_ref, nl_null, nl_none, rf_n, rf_s, rf_st, tl_s, tl_n, g0, gS, ex1, nb_b, nb_0, nb_1, nf_i, nf_l, nf_ra, nf_ro, nf_na, nf_no, nf_b0, nf_z0, t45_4, t45_5, true_and, and_true, List.set_cons_zero, List.set_cons_succ, List.length_cons, List.length_nil, rd_s, upw_s, ne_eq, not_false_eq_true, Nat.zero_add, Nat.add_zero, if_true, if_false, rb, rdd, exal, al26, shl0, shr0]
  repeat' first | with_reducible refine And.intro ?_ ?_ | omega
  refine sJ8_newLength_cabcc hS (by rw [e]; omega) (by rw [e]; omega) ?_
  generalize (Int32.ofNat N + (if m - Int32.ofNat N < Int32.ofNat N + 2 then Int32.ofNat N + 2 else m - Int32.ofNat N)) = v at e ⊢
  have t1 : (v = 2147483647) = False := eq_false (fun h => by
    have h3 : v.toInt = 2147483647 := by rw [h]; rfl
    omega)
  simp only [eJ5_newCapacity_0f7a4_0, eJ5_newCapacity_0f7a4_0N, eJ5_newCapacity_0f7a4_1, eJ5_newCapacity_0f7a4_4, eJ5_newCapacity_0f7a4_5, eJ5_newCapacity_0f7a4_6, eJ5_newCapacity_0f7a4_7, eJ5_newCapacity_0f7a4_7N, eJ5_newCapacity_0f7a4_8, eJ5_newCapacity_0f7a4_11, eJ5_newCapacity_0f7a4_14, eJ5_newCapacity_0f7a4_23, eJ5_newCapacity_0f7a4_23N, eJ5_newCapacity_0f7a4_24, eJ5_newCapacity_0f7a4_27, eJ5_newCapacity_0f7a4_32, eJ5_newCapacity_0f7a4_38, eJ5_newCapacity_0f7a4_51, eJ5_newCapacity_0f7a4_53, eJ5_newCapacity_0f7a4_53N, eJ5_newCapacity_0f7a4_54, eJ5_newCapacity_0f7a4_57, ite_le, n45, n54, true_or, or_true, false_or, or_false, false_and, and_false, kx_l, kx_r, go_s, gl_s, gi_s, gb_s2, gb_s3, gq_s, wt_nil, wt_int, wt_long, wt_ref, wt_null, nl_int, nl_long, nl_ref, nl_null, nl_none, rf_n, rf_s, rf_st, tl_s, tl_n, g0, gS, ex1, nb_b, nb_0, nb_1, nf_i, nf_l, nf_ra, nf_ro, nf_na, nf_no, nf_b0, nf_z0, t45_4, t45_5, true_and, and_true, List.set_cons_zero, List.set_cons_succ, List.length_cons, List.length_nil, rd_s, upw_s, ne_eq, not_false_eq_true, Nat.zero_add, Nat.add_zero, if_true, if_false, rb, rdd, hS.2.2, t1, exal, al26, shl0, shr0]
  repeat' first | with_reducible refine And.intro ?_ ?_ | omega
  exact hQ v e
set_option maxHeartbeats 4000000 in
theorem sJ7_copyOf_9075b {mc ms : Nat} {a N : Nat} {v : Int32} {f : Nat → Int32} (rdd : rd g w a = some (.inl (2, N, .inl f))) (hf : bOK N f) (hN : N ≤ 1000) (h1 : (N : Int) < v.toInt) (h2 : v.toInt ≤ 3000) (hmc : 1 ≤ mc) (hms : v.toInt ≤ (ms : Int)) (hQ : ∀ (q : Nat) (f' : Nat → Int32), rd g w q = none → bOK v.toNatClampNeg f' → Q (.inl (some (.ref q))) (upw w q (.inl (2, v.toNatClampNeg, .inl f')))) : WP (MJ7_copyOf_9075b g mc ms) Q (0, [some (.ref a), some (.int v), none], [], w, 0, 0) := by
  have e := ofN (N := N) (by omega)
  have ev : v.toNatClampNeg = v.toInt.toNat := rfl
  have t1 : (v = Int32.ofNat N) = False := eq_false (fun h => by
    have h3 : v.toInt = (Int32.ofNat N).toInt := by rw [h]
    omega)
  have t2 : (v < 0) = False := lt_f (by show (0 : Int) ≤ v.toInt; omega)
  have t3 : (v < Int32.ofNat N) = False := lt_f (by omega)
  have t4 : (Int32.ofNat N < 0) = False := lt_f (by show (0 : Int) ≤ _; omega)
  have en : (Int32.ofNat N).toNatClampNeg = N := by
    show (Int32.ofNat N).toInt.toNat = N
    omega
  have z0 : ((0 : Int32) < 0) = False := eq_false (by decide)
  have zn : (0 : Int32).toNatClampNeg = 0 := rfl
  simp only [eJ7_copyOf_9075b_0, eJ7_copyOf_9075b_1, eJ7_copyOf_9075b_1N, eJ7_copyOf_9075b_2, eJ7_copyOf_9075b_3, eJ7_copyOf_9075b_6, eJ7_copyOf_9075b_6N, eJ7_copyOf_9075b_7, eJ7_copyOf_9075b_10N, eJ7_copyOf_9075b_10R, eJ7_copyOf_9075b_13, eJ7_copyOf_9075b_14, eJ7_copyOf_9075b_15, eJ7_copyOf_9075b_17, eJ7_copyOf_9075b_17N, eJ7_copyOf_9075b_18, eJ7_copyOf_9075b_18N, eJ7_copyOf_9075b_19, eJ7_copyOf_9075b_20, eJ7_copyOf_9075b_20N, eJ7_copyOf_9075b_21, eJ7_copyOf_9075b_22, eJ7_copyOf_9075b_22N, eJ7_copyOf_9075b_23, eJ7_copyOf_9075b_24, eJ7_copyOf_9075b_25, eJ7_copyOf_9075b_28O, eJ7_copyOf_9075b_28B, eJ7_copyOf_9075b_31, eJ7_copyOf_9075b_31N, eJ7_copyOf_9075b_32, ite_le, n45, n54, true_or, or_true, false_or, or_false, false_and, and_false, kx_l, kx_r, go_s, gl_s, gi_s, gb_s2, gb_s3, gq_s, wt_nil, wt_int, wt_long, wt_ref, wt_null, nl_int, nl_long, nl_ref, nl_null, nl_none, rf_n, rf_s, rf_st, tl_s, tl_n, g0, gS, ex1, nb_b, nb_0, nb_1, nf_i, nf_l, nf_ra, nf_ro, nf_na, nf_no, nf_b0, nf_z0, t45_4, t45_5, true_and, and_true, List.set_cons_zero, List.set_cons_succ, List.length_cons, List.length_nil, rd_s, upw_s, ne_eq, not_false_eq_true, Nat.zero_add, Nat.add_zero, if_true, if_false, rdd, exal, al26, t1, t2]
  repeat' first | with_reducible refine And.intro ?_ ?_ | omega
  intro q hq
  have hne : a ≠ q := fun h => by
    subst h
    rw [rdd] at hq
    cases hq
  have ra : rd g (upw w q (.inl (2, v.toNatClampNeg, .inl fun _ => 0))) a = some (.inl (2, N, .inl f)) := by rw [rd_n hne]; exact rdd
  simp only [eJ7_copyOf_9075b_0, eJ7_copyOf_9075b_1, eJ7_copyOf_9075b_1N, eJ7_copyOf_9075b_2, eJ7_copyOf_9075b_3, eJ7_copyOf_9075b_6, eJ7_copyOf_9075b_6N, eJ7_copyOf_9075b_7, eJ7_copyOf_9075b_10N, eJ7_copyOf_9075b_10R, eJ7_copyOf_9075b_13, eJ7_copyOf_9075b_14, eJ7_copyOf_9075b_15, eJ7_copyOf_9075b_17, eJ7_copyOf_9075b_17N, eJ7_copyOf_9075b_18, eJ7_copyOf_9075b_18N, eJ7_copyOf_9075b_19, eJ7_copyOf_9075b_20, eJ7_copyOf_9075b_20N, eJ7_copyOf_9075b_21, eJ7_copyOf_9075b_22, eJ7_copyOf_9075b_22N, eJ7_copyOf_9075b_23, eJ7_copyOf_9075b_24, eJ7_copyOf_9075b_25, eJ7_copyOf_9075b_28O, eJ7_copyOf_9075b_28B, eJ7_copyOf_9075b_31, eJ7_copyOf_9075b_31N, eJ7_copyOf_9075b_32, ite_le, n45, n54, true_or, or_true, false_or, or_false, false_and, and_false, kx_l, kx_r, go_s, gl_s, gi_s, gb_s2, gb_s3, gq_s, wt_nil, wt_int, wt_long, wt_ref, wt_null, nl_int, nl_long, nl_ref, nl_null, nl_none, rf_n, rf_s, rf_st, tl_s, tl_n, g0, gS, ex1, nb_b, nb_0, nb_1, nf_i, nf_l, nf_ra, nf_ro, nf_na, nf_no, nf_b0, nf_z0, t45_4, t45_5, true_and, and_true, List.set_cons_zero, List.set_cons_succ, List.length_cons, List.length_nil, rd_s, upw_s, ne_eq, not_false_eq_true, Nat.zero_add, Nat.add_zero, if_true, if_false, ra, exal, al26, t1, t2, t3, t4, z0, en, zn, upw2, eJ7_copyOf_9075b_28B ra (upw_s _ _ _)]
  repeat' first | with_reducible refine And.intro ?_ ?_ | omega
  · intro j hj
    exact hf j (by omega)
  · exact hQ q _ hq (bOK_cpy (N0 := N) hf (bOK_0 _) (by omega))
end
end
/-! 60.text4.lean.txt -/
section
section
variable {g : RO} {Q : Ot → Hw → Prop} {w0 w : Hw}
/-- a builder: its row of bytes d has N places, c are taken -/
def SBo (w : Hw) (b d N : Nat) (c : Int32) : Prop := ∃ (ml : Int32) (f : Nat → Int32), w b = some (.inr (1, [.ref d, .int 0, .int ml, .int c])) ∧ w d = some (.inl (2, N, .inl f)) ∧ bOK N f ∧ 0 ≤ c.toInt ∧ c.toInt ≤ (N : Int)
/-- .. made since w0 -/
def TS (g : RO) (w0 : Hw) (b d N : Nat) (c : Int32) (w : Hw) : Prop := ext g w0 w ∧ (w0 b = none ∧ w0 d = none ∧ g.2 b = none ∧ g.2 d = none) ∧ SBo w b d N c
theorem ext.own {g : RO} {w0 w : Hw} {a : Nat} {o : Ob} (h : ext g w0 w) (h1 : w0 a = none) (h2 : g.2 a = none) : ext g w0 (upw w a o) := by
  refine ⟨fun q o' z => ?_, fun q o' z1 z2 => ?_⟩
  · rw [upw_n]
    · exact h.1 q o' z
    · rintro rfl
      rw [h1] at z
      cases z
  · rw [upw_n]
    · exact h.2 q o' z1 z2
    · rintro rfl
      rw [h2] at z1
      cases z1
theorem TS.opn {w0 w : Hw} {b d N : Nat} {c : Int32} (g : RO) (h : TS g w0 b d N c w) : ∃ (ml : Int32) (f : Nat → Int32), w b = some (.inr (1, [.ref d, .int 0, .int ml, .int c])) ∧ w d = some (.inl (2, N, .inl f)) ∧ bOK N f ∧ 0 ≤ c.toInt ∧ c.toInt ≤ (N : Int) ∧ rd g w b = some (.inr (1, [.ref d, .int 0, .int ml, .int c])) ∧ rd g w d = some (.inl (2, N, .inl f)) ∧ b ≠ d ∧ d ≠ b := by
  obtain ⟨-, -, ml, f, h1, h2, h3, h4, h5⟩ := h
  have hne : b ≠ d := fun e => by
    rw [e, h2] at h1
    cases h1
  exact ⟨ml, f, h1, h2, h3, h4, h5, rd_e h1, rd_e h2, hne, hne.symm⟩
/-- bytes written, the count set -/
theorem TS.fin {w0 w : Hw} {b d N : Nat} {c c' ml : Int32} {f' : Nat → Int32} (h : TS g w0 b d N c w) (hf : bOK N f') (h0 : 0 ≤ c'.toInt) (h1 : c'.toInt ≤ (N : Int)) : TS g w0 b d N c' (upw (upw w d (.inl (2, N, .inl f'))) b (.inr (1, [.ref d, .int 0, .int ml, .int c']))) := by
  obtain ⟨-, -, -, -, -, -, -, -, -, n1, n2⟩ := h.opn g
  exact ⟨(h.1.own h.2.1.2.1 h.2.1.2.2.2).own h.2.1.1 h.2.1.2.2.1, h.2.1, ml, f', upw_s _ _ _, by rw [upw_n n2]; exact upw_s _ _ _, hf, h0, h1⟩
/-- the count set, then bytes written -/
theorem TS.fin2 {w0 w : Hw} {b d N : Nat} {c c' ml : Int32} {f' : Nat → Int32} (h : TS g w0 b d N c w) (hf : bOK N f') (h0 : 0 ≤ c'.toInt) (h1 : c'.toInt ≤ (N : Int)) : TS g w0 b d N c' (upw (upw w b (.inr (1, [.ref d, .int 0, .int ml, .int c']))) d (.inl (2, N, .inl f'))) := by
  obtain ⟨-, -, -, -, -, -, -, -, -, n1, n2⟩ := h.opn g
  exact ⟨(h.1.own h.2.1.1 h.2.1.2.2.1).own h.2.1.2.1 h.2.1.2.2.2, h.2.1, ml, f', by rw [upw_n n1]; exact upw_s _ _ _, upw_s _ _ _, hf, h0, h1⟩
/-- a wider row of bytes -/
theorem TS.wide {w0 w : Hw} {b d N N' q : Nat} {c ml : Int32} {f' : Nat → Int32} (h : TS g w0 b d N c w) (hq : rd g w q = none) (hf : bOK N' f') (h1 : c.toInt ≤ (N' : Int)) : TS g w0 b q N' c (upw (upw w q (.inl (2, N', .inl f'))) b (.inr (1, [.ref q, .int 0, .int ml, .int c]))) := by
  obtain ⟨ml0, f0, e1, -, -, h0, -, -, -, n1, n2⟩ := h.opn g
  have hqn := rd_none hq
  have hqw : w0 q = none := by
    cases hz : w0 q with
    | none => rfl
    | some o =>
      have := h.1.1 q o hz
      rw [hqn] at this
      cases this
  have hqb : q ≠ b := fun e => by
    rw [e, e1] at hqn
    cases hqn
  exact ⟨(h.1.own hqw (rd_ro hq)).own h.2.1.1 h.2.1.2.2.1, ⟨h.2.1.1, hqw, h.2.1.2.2.1, rd_ro hq⟩, ml, f', upw_s _ _ _, by rw [upw_n hqb]; exact upw_s _ _ _, hf, h0, h1⟩
theorem sbCap_v {w : Hw} {b d N : Nat} {c ml : Int32} {f : Nat → Int32} (h1 : w b = some (.inr (1, [.ref d, .int 0, .int ml, .int c]))) (h2 : w d = some (.inl (2, N, .inl f))) : sbCap w b = N := by
  simp only [sbCap, h1, h2]
theorem sbCnt_v {w : Hw} {b d : Nat} {c ml : Int32} (h1 : w b = some (.inr (1, [.ref d, .int 0, .int ml, .int c]))) : sbCnt w b = c := by
  simp only [sbCnt, h1]
theorem kfE_v {w : Hw} {b : Nat} {m : Int32} : kfE [.ref b, .int m] w = if sbCap w b < m.toNatClampNeg then 1 else 0 := rfl
theorem sfE_v {w : Hw} {b : Nat} {m : Int32} : sfE [.ref b, .int m] w = if sbCap w b < m.toNatClampNeg then max m.toNatClampNeg (2 * sbCap w b + 2) else 0 := rfl
theorem kfI_v {w : Hw} {b : Nat} {m : Int32} : kfI [.ref b, .int m] w = kfE [.ref b, .int (sbCnt w b + 1)] w := rfl
theorem sfI_v {w : Hw} {b : Nat} {m : Int32} : sfI [.ref b, .int m] w = sfE [.ref b, .int (sbCnt w b + 1)] w := rfl
theorem kfG_v {w : Hw} {a : Nat} {v : Int32} : kfG [.ref a, .int v] w = 1 := rfl
theorem sfC_v {w : Hw} {a : Nat} {v : Int32} : sfC [.ref a, .int v] w = v.toNatClampNeg := rfl
set_option maxHeartbeats 4000000 in
theorem sJ5_ensureCapacityInternal_d00df {mc ms : Nat} {b d N : Nat} {c m : Int32} (hS : SG g) (hT : TS g w0 b d N c w) (hN : N ≤ 1000) (h0 : 0 ≤ m.toInt) (h2 : m.toInt ≤ 2000) (hmc : (N : Int) < m.toInt → 1 ≤ mc ∧ max m.toInt (2 * (N : Int) + 2) ≤ (ms : Int)) (hQ1 : m.toInt ≤ (N : Int) → Q (.inl none) w) (hQ2 : ∀ (d' N' : Nat) (w' : Hw), (N : Int) < m.toInt → (N' : Int) = max m.toInt (2 * (N : Int) + 2) → TS g w0 b d' N' c w' → Q (.inl none) w') : WP (MJ5_ensureCapacityInternal_d00df g mc ms) Q (0, [some (.ref b), some (.int m), none], [], w, 0, 0) := by
  obtain ⟨ml, f, hb, hd, hf, hc0, hc1, rb, rdd, n1, n2⟩ := hT.opn g
  have e := ofN (N := N) (by omega)
  have s1 : (m - Int32.ofNat N).toInt = m.toInt - N := by rw [i32_sub (by omega) (by omega), e]
  have z0 : (0 : Int32).toInt = 0 := rfl
  simp only [eJ5_ensureCapacityInternal_d00df_0, eJ5_ensureCapacityInternal_d00df_0N, eJ5_ensureCapacityInternal_d00df_1, eJ5_ensureCapacityInternal_d00df_4, eJ5_ensureCapacityInternal_d00df_5, eJ5_ensureCapacityInternal_d00df_5N, eJ5_ensureCapacityInternal_d00df_6, eJ5_ensureCapacityInternal_d00df_9, eJ5_ensureCapacityInternal_d00df_10, eJ5_ensureCapacityInternal_d00df_11, eJ5_ensureCapacityInternal_d00df_12, eJ5_ensureCapacityInternal_d00df_13, eJ5_ensureCapacityInternal_d00df_14, eJ5_ensureCapacityInternal_d00df_17, eJ5_ensureCapacityInternal_d00df_17N, eJ5_ensureCapacityInternal_d00df_18, eJ5_ensureCapacityInternal_d00df_18N, eJ5_ensureCapacityInternal_d00df_19, eJ5_ensureCapacityInternal_d00df_22, eJ5_ensureCapacityInternal_d00df_22N, eJ5_ensureCapacityInternal_d00df_23, eJ5_ensureCapacityInternal_d00df_24, eJ5_ensureCapacityInternal_d00df_27, eJ5_ensureCapacityInternal_d00df_27N, eJ5_ensureCapacityInternal_d00df_28, eJ5_ensureCapacityInternal_d00df_31, eJ5_ensureCapacityInternal_d00df_32R, eJ5_ensureCapacityInternal_d00df_32N, eJ5_ensureCapacityInternal_d00df_35, eJ5_ensureCapacityInternal_d00df_38, ite_le, n45, n54, true_or, or_true, false_or, or_false, false_and, and_false, kx_l, kx_r, go_s, gl_s, gi_s, gb_s2, gb_s3, gq_s, wt_nil, wt_int, wt_long, wt_ref, wt_null, nl_int, nl_long, nl_ref, nl_null, nl_none, rf_n, rf_s, rf_st, tl_s, tl_n, g0, gS, ex1, nb_b, nb_0, nb_1, nf_i, nf_l, nf_ra, nf_ro, nf_na, nf_no, nf_b0, nf_z0, t45_4, t45_5, true_and, and_true, List.set_cons_zero, List.set_cons_succ, List.length_cons, List.length_nil, rd_s, upw_s, ne_eq, not_false_eq_true, Nat.zero_add, Nat.add_zero, if_true, if_false, rb, rdd, exal, al26, shr0]
  split
  · next hlt =>
    have hlt := i32_lt hlt
    obtain ⟨m1, m2⟩ := hmc (by omega)
    repeat' first | with_reducible refine And.intro ?_ ?_ | omega
    all_goals try exact trivial
    refine sJ5_newCapacity_0f7a4 hS rb rdd hN (by omega) h2 fun v hv => ?_
    simp only [eJ5_ensureCapacityInternal_d00df_0, eJ5_ensureCapacityInternal_d00df_0N, eJ5_ensureCapacityInternal_d00df_1, eJ5_ensureCapacityInternal_d00df_4, eJ5_ensureCapacityInternal_d00df_5, eJ5_ensureCapacityInternal_d00df_5N, eJ5_ensureCapacityInternal_d00df_6, eJ5_ensureCapacityInternal_d00df_9, eJ5_ensureCapacityInternal_d00df_10, eJ5_ensureCapacityInternal_d00df_11, eJ5_ensureCapacityInternal_d00df_12, eJ5_ensureCapacityInternal_d00df_13, eJ5_ensureCapacityInternal_d00df_14, eJ5_ensureCapacityInternal_d00df_17, eJ5_ensureCapacityInternal_d00df_17N, eJ5_ensureCapacityInternal_d00df_18, eJ5_ensureCapacityInternal_d00df_18N, eJ5_ensureCapacityInternal_d00df_19, eJ5_ensureCapacityInternal_d00df_22, eJ5_ensureCapacityInternal_d00df_22N, eJ5_ensureCapacityInternal_d00df_23, eJ5_ensureCapacityInternal_d00df_24, eJ5_ensureCapacityInternal_d00df_27, eJ5_ensureCapacityInternal_d00df_27N, eJ5_ensureCapacityInternal_d00df_28, eJ5_ensureCapacityInternal_d00df_31, eJ5_ensureCapacityInternal_d00df_32R, eJ5_ensureCapacityInternal_d00df_32N, eJ5_ensureCapacityInternal_d00df_35, eJ5_ensureCapacityInternal_d00df_38, ite_le, n45, n54, true_or, or_true, false_or, or_false, false_and, and_false, kx_l, kx_r, go_s, gl_s, gi_s, gb_s2, gb_s3, gq_s, wt_nil, wt_int, wt_long, wt_ref, wt_null, nl_int, nl_long, nl_ref, nl_null, nl_none, rf_n, rf_s, rf_st, tl_s, tl_n, g0, gS, ex1, nb_b, nb_0, nb_1, nf_i, nf_l, nf_ra, nf_ro, nf_na, nf_no, nf_b0, nf_z0, t45_4, t45_5, true_and, and_true, List.set_cons_zero, List.set_cons_succ, List.length_cons, List.length_nil, rd_s, upw_s, ne_eq, not_false_eq_true, Nat.zero_add, Nat.add_zero, if_true, if_false, rb, rdd, shl0, exal, al26]
    repeat' first | with_reducible refine And.intro ?_ ?_ | omega
    all_goals try (rw [kfG_v])
    all_goals try (rw [sfC_v])
    all_goals try (show _ ≤ _; have ev : v.toNatClampNeg = v.toInt.toNat := rfl; omega)
    refine sJ7_copyOf_9075b rdd hf hN (by omega) (by omega) (Nat.le_refl _) (by have ev : v.toNatClampNeg = v.toInt.toNat := rfl; omega) fun q f' hq hf' => ?_
    have hqn := rd_none hq
    have hqb : b ≠ q := fun e => by
      rw [← e, hb] at hqn
      cases hqn
    simp only [eJ5_ensureCapacityInternal_d00df_0, eJ5_ensureCapacityInternal_d00df_0N, eJ5_ensureCapacityInternal_d00df_1, eJ5_ensureCapacityInternal_d00df_4, eJ5_ensureCapacityInternal_d00df_5, eJ5_ensureCapacityInternal_d00df_5N, eJ5_ensureCapacityInternal_d00df_6, eJ5_ensureCapacityInternal_d00df_9, eJ5_ensureCapacityInternal_d00df_10, eJ5_ensureCapacityInternal_d00df_11, eJ5_ensureCapacityInternal_d00df_12, eJ5_ensureCapacityInternal_d00df_13, eJ5_ensureCapacityInternal_d00df_14, eJ5_ensureCapacityInternal_d00df_17, eJ5_ensureCapacityInternal_d00df_17N, eJ5_ensureCapacityInternal_d00df_18, eJ5_ensureCapacityInternal_d00df_18N, eJ5_ensureCapacityInternal_d00df_19, eJ5_ensureCapacityInternal_d00df_22, eJ5_ensureCapacityInternal_d00df_22N, eJ5_ensureCapacityInternal_d00df_23, eJ5_ensureCapacityInternal_d00df_24, eJ5_ensureCapacityInternal_d00df_27, eJ5_ensureCapacityInternal_d00df_27N, eJ5_ensureCapacityInternal_d00df_28, eJ5_ensureCapacityInternal_d00df_31, eJ5_ensureCapacityInternal_d00df_32R, eJ5_ensureCapacityInternal_d00df_32N, eJ5_ensureCapacityInternal_d00df_35, eJ5_ensureCapacityInternal_d00df_38, ite_le, n45, n54, true_or, or_true, false_or, or_false, false_and, and_false, kx_l, kx_r, go_s, gl_s, gi_s, gb_s2, gb_s3, gq_s, wt_nil, wt_int, wt_long, wt_ref, wt_null, nl_int, nl_long, nl_ref, nl_null, nl_none, rf_n, rf_s, rf_st, tl_s, tl_n, g0, gS, ex1, nb_b, nb_0, nb_1, nf_i, nf_l, nf_ra, nf_ro, nf_na, nf_no, nf_b0, nf_z0, t45_4, t45_5, true_and, and_true, List.set_cons_zero, List.set_cons_succ, List.length_cons, List.length_nil, rd_s, upw_s, ne_eq, not_false_eq_true, Nat.zero_add, Nat.add_zero, if_true, if_false, hb, hqb, upw_n, tyJ4, nf_ra]
    repeat' first | with_reducible refine And.intro ?_ ?_ | omega
    all_goals try (have ev : v.toNatClampNeg = v.toInt.toNat := rfl; omega)
    refine hQ2 q v.toNatClampNeg _ (by omega) (by have ev : v.toNatClampNeg = v.toInt.toNat := rfl; omega) (hT.wide hq hf' (by have ev : v.toNatClampNeg = v.toInt.toNat := rfl; omega))
  · next hlt =>
    have hlt := i32_nlt hlt
    repeat' first | with_reducible refine And.intro ?_ ?_ | omega
    exact hQ1 (by omega)
end
end
/-! 60.text5.lean.txt -/
section
section
variable {g : RO} {Q : Ot → Hw → Prop} {w0 w : Hw}
theorem zz1 : ((1 : Int32) = 0) = False := eq_false (by decide)
theorem i32_p1 {c : Int32} (h0 : 0 ≤ c.toInt) (h : c.toInt ≤ 2000) : (c + 1).toInt = c.toInt + 1 := i32_add (by show -2147483648 ≤ c.toInt + 1; omega) (by show c.toInt + 1 ≤ 2147483647; omega)
theorem kE {w : Hw} {b d N : Nat} {c m ml : Int32} {f : Nat → Int32} (h1 : w b = some (.inr (1, [.ref d, .int 0, .int ml, .int c]))) (h2 : w d = some (.inl (2, N, .inl f))) (h0 : 0 ≤ m.toInt) : (kfE [.ref b, .int m] w = if (N : Int) < m.toInt then 1 else 0) ∧ ((sfE [.ref b, .int m] w : Nat) : Int) = if (N : Int) < m.toInt then max m.toInt (2 * (N : Int) + 2) else 0 := by
  have em : m.toNatClampNeg = m.toInt.toNat := rfl
  rw [kfE_v, sfE_v, sbCap_v h1 h2, em]
  by_cases h : (N : Int) < m.toInt
  · rw [if_pos h, if_pos h, if_pos (by omega), if_pos (by omega)]
    exact ⟨rfl, by omega⟩
  · rw [if_neg h, if_neg h, if_neg (by omega), if_neg (by omega)]
    exact ⟨rfl, rfl⟩
set_option maxHeartbeats 4000000 in
theorem lJ5_append_3fe6f_10 {mc ms k n : Nat} {b d N : Nat} {c ch : Int32} (hS : SG g) (hT : TS g w0 b d N c w) (hN : N ≤ 1000) (hch : (255 < ch) = False) (hlt : c.toInt + 1 ≤ (N : Int)) (hk : k ≤ mc) (hn : n ≤ ms) (hQ : ∀ w', TS g w0 b d N (c + 1) w' → Q (.inl (some (.ref b))) w') : WP (MJ5_append_3fe6f g mc ms) Q (10, [some (.ref b), some (.int ch)], [], w, k, n) := by
  obtain ⟨ml, f, hb, hd, hf, hc0, hc1, rb, rdd, n1, n2⟩ := hT.opn g
  have cv : vp_in c N := vpiN hc0 (by omega)
  have e1 := i32_p1 hc0 (by omega)
  simp only [eJ5_append_3fe6f_10, eJ5_append_3fe6f_10N, eJ5_append_3fe6f_11, eJ5_append_3fe6f_14, eJ5_append_3fe6f_17, eJ5_append_3fe6f_18, eJ5_append_3fe6f_21, eJ5_append_3fe6f_24, eJ5_append_3fe6f_24N, eJ5_append_3fe6f_25, eJ5_append_3fe6f_28, eJ5_append_3fe6f_28N, eJ5_append_3fe6f_29, eJ5_append_3fe6f_29R, eJ5_append_3fe6f_30, eJ5_append_3fe6f_33IR, eJ5_append_3fe6f_33RR, eJ5_append_3fe6f_34, eJ5_append_3fe6f_35, eJ5_append_3fe6f_36, eJ5_append_3fe6f_39, eJ5_append_3fe6f_40, eJ5_append_3fe6f_41, eJ5_append_3fe6f_42, eJ5_append_3fe6f_45, eJ5_append_3fe6f_45N, eJ5_append_3fe6f_46, eJ5_append_3fe6f_49, eJ5_append_3fe6f_52, eJ5_append_3fe6f_52N, eJ5_append_3fe6f_56, eJ5_append_3fe6f_56N, eJ5_append_3fe6f_57, eJ5_append_3fe6f_60, eJ5_append_3fe6f_60N, eJ5_append_3fe6f_61, eJ5_append_3fe6f_61R, eJ5_append_3fe6f_62, eJ5_append_3fe6f_65IR, eJ5_append_3fe6f_65RR, eJ5_append_3fe6f_66, eJ5_append_3fe6f_67, eJ5_append_3fe6f_68, eJ5_append_3fe6f_71, eJ5_append_3fe6f_75, eJ5_append_3fe6f_75N, eJ5_append_3fe6f_76, eJ5_append_3fe6f_76N, eJ5_isLatin1_aae02_0, eJ5_isLatin1_aae02_3, eJ5_isLatin1_aae02_6, eJ5_isLatin1_aae02_6N, eJ5_isLatin1_aae02_7, eJ5_isLatin1_aae02_10, eJ5_isLatin1_aae02_13, eJ5_isLatin1_aae02_17, eJ5_isLatin1_aae02_18, eJ1_canEncode_fc78d_0, eJ1_canEncode_fc78d_7, eJ1_canEncode_fc78d_11, eJ1_canEncode_fc78d_12, ite_le, n45, n54, true_or, or_true, false_or, or_false, false_and, and_false, kx_l, kx_r, go_s, gl_s, gi_s, gb_s2, gb_s3, gq_s, wt_nil, wt_int, wt_long, wt_ref, wt_null, nl_int, nl_long, nl_ref, nl_null, nl_none, rf_n, rf_s, rf_st, tl_s, tl_n, g0, gS, ex1, nb_b, nb_0, nb_1, nf_i, nf_l, nf_ra, nf_ro, nf_na, nf_no, nf_b0, nf_z0, t45_4, t45_5, true_and, and_true, List.set_cons_zero, List.set_cons_succ, List.length_cons, List.length_nil, rd_s, upw_s, ne_eq, not_false_eq_true, Nat.zero_add, Nat.add_zero, if_true, if_false, eq_self, hS.1, zz1, hch, rb, hb, rdd, hd, n1, n2, upw_n, rd_n, bty_2, cv, exal, al26]
  repeat' first | with_reducible refine And.intro ?_ ?_ | omega
  exact hQ _ (hT.fin2 (bOK_up hf _ _) (by omega) (by omega))
set_option maxHeartbeats 4000000 in
theorem sJ5_append_3fe6f {mc ms : Nat} {b d N : Nat} {c ch : Int32} (hS : SG g) (hT : TS g w0 b d N c w) (hN : N ≤ 400) (hch : (255 < ch) = False) (hmc : (N : Int) < c.toInt + 1 → 1 ≤ mc ∧ max (c.toInt + 1) (2 * (N : Int) + 2) ≤ (ms : Int)) (hQ1 : ∀ w', c.toInt + 1 ≤ (N : Int) → TS g w0 b d N (c + 1) w' → Q (.inl (some (.ref b))) w') (hQ2 : ∀ (d' N' : Nat) (w' : Hw), (N : Int) < c.toInt + 1 → (N' : Int) = max (c.toInt + 1) (2 * (N : Int) + 2) → TS g w0 b d' N' (c + 1) w' → Q (.inl (some (.ref b))) w') : WP (MJ5_append_3fe6f g mc ms) Q (0, [some (.ref b), some (.int ch)], [], w, 0, 0) := by
  obtain ⟨ml, f, hb, hd, hf, hc0, hc1, rb, rdd, n1, n2⟩ := hT.opn g
  have e1 := i32_p1 hc0 (by omega)
  obtain ⟨eK, eS⟩ := kE (m := c + 1) hb hd (by omega)
  have hk : kfE [.ref b, .int (c + 1)] w ≤ mc := by
    rw [eK]
    split
    · exact (hmc (by omega)).1
    · exact Nat.zero_le _
  have hs : sfE [.ref b, .int (c + 1)] w ≤ ms := by
    split at eS
    · have := (hmc (by omega)).2
      omega
    · omega
  simp only [eJ5_append_3fe6f_0, eJ5_append_3fe6f_0N, eJ5_append_3fe6f_1, eJ5_append_3fe6f_1N, eJ5_append_3fe6f_2, eJ5_append_3fe6f_5, eJ5_append_3fe6f_6, eJ5_append_3fe6f_7, ite_le, n45, n54, true_or, or_true, false_or, or_false, false_and, and_false, kx_l, kx_r, go_s, gl_s, gi_s, gb_s2, gb_s3, gq_s, wt_nil, wt_int, wt_long, wt_ref, wt_null, nl_int, nl_long, nl_ref, nl_null, nl_none, rf_n, rf_s, rf_st, tl_s, tl_n, g0, gS, ex1, nb_b, nb_0, nb_1, nf_i, nf_l, nf_ra, nf_ro, nf_na, nf_no, nf_b0, nf_z0, t45_4, t45_5, true_and, and_true, List.set_cons_zero, List.set_cons_succ, List.length_cons, List.length_nil, rd_s, upw_s, ne_eq, not_false_eq_true, Nat.zero_add, Nat.add_zero, if_true, if_false, eq_self, rb, hb, hk, hs]
  repeat' first | with_reducible refine And.intro ?_ ?_ | omega
  refine sJ5_ensureCapacityInternal_d00df hS hT (by omega) (by omega) (by omega) (fun h => ⟨by rw [eK, if_pos h]; exact Nat.le_refl _, by rw [eS, if_pos h]; exact Int.le_refl _⟩) (fun h => ?_) (fun d' N' w' h1 h2 hT' => ?_)
  · simp only [eJ5_append_3fe6f_0, eJ5_append_3fe6f_0N, eJ5_append_3fe6f_1, eJ5_append_3fe6f_1N, eJ5_append_3fe6f_2, eJ5_append_3fe6f_5, eJ5_append_3fe6f_6, eJ5_append_3fe6f_7, ite_le, n45, n54, true_or, or_true, false_or, or_false, false_and, and_false, kx_l, kx_r, go_s, gl_s, gi_s, gb_s2, gb_s3, gq_s, wt_nil, wt_int, wt_long, wt_ref, wt_null, nl_int, nl_long, nl_ref, nl_null, nl_none, rf_n, rf_s, rf_st, tl_s, tl_n, g0, gS, ex1, nb_b, nb_0, nb_1, nf_i, nf_l, nf_ra, nf_ro, nf_na, nf_no, nf_b0, nf_z0, t45_4, t45_5, true_and, and_true, List.set_cons_zero, List.set_cons_succ, List.length_cons, List.length_nil, rd_s, upw_s, ne_eq, not_false_eq_true, Nat.zero_add, Nat.add_zero, if_true, if_false, eq_self]
    exact lJ5_append_3fe6f_10 hS hT (by omega) hch (by omega) (by omega) (by omega) (fun w' z => hQ1 w' (by omega) z)
  · simp only [eJ5_append_3fe6f_0, eJ5_append_3fe6f_0N, eJ5_append_3fe6f_1, eJ5_append_3fe6f_1N, eJ5_append_3fe6f_2, eJ5_append_3fe6f_5, eJ5_append_3fe6f_6, eJ5_append_3fe6f_7, ite_le, n45, n54, true_or, or_true, false_or, or_false, false_and, and_false, kx_l, kx_r, go_s, gl_s, gi_s, gb_s2, gb_s3, gq_s, wt_nil, wt_int, wt_long, wt_ref, wt_null, nl_int, nl_long, nl_ref, nl_null, nl_none, rf_n, rf_s, rf_st, tl_s, tl_n, g0, gS, ex1, nb_b, nb_0, nb_1, nf_i, nf_l, nf_ra, nf_ro, nf_na, nf_no, nf_b0, nf_z0, t45_4, t45_5, true_and, and_true, List.set_cons_zero, List.set_cons_succ, List.length_cons, List.length_nil, rd_s, upw_s, ne_eq, not_false_eq_true, Nat.zero_add, Nat.add_zero, if_true, if_false, eq_self]
    exact lJ5_append_3fe6f_10 hS hT' (by omega) hch (by omega) (by omega) (by omega) (fun w' z => hQ2 d' N' w' (by omega) (by omega) z)
set_option maxHeartbeats 4000000 in
theorem lJ5_append_c97b9_17 {mc ms k n : Nat} {b d N : Nat} {c i : Int32} (hS : SG g) (hT : TS g w0 b d N c w) (hD : DG g w) (hN : N ≤ 1000) (hi0 : ¬ i < 0) (hi1 : i < 10) (hlt : c.toInt + 1 ≤ (N : Int)) (hk : k ≤ mc) (hn : n ≤ ms) (hQ : ∀ w', TS g w0 b d N (c + 1) w' → Q (.inl (some (.ref b))) w') : WP (MJ5_append_c97b9 g mc ms) Q (17, [some (.ref b), some (.int i), some (.int c), some (.int (c + 1))], [], w, k, n) := by
  obtain ⟨ml, f, hb, hd, hf, hc0, hc1, rb, rdd, n1, n2⟩ := hT.opn g
  have e1 := i32_p1 hc0 (by omega)
  simp only [eJ5_append_c97b9_17, eJ5_append_c97b9_17N, eJ5_append_c97b9_18, eJ5_append_c97b9_21, eJ5_append_c97b9_24, eJ5_append_c97b9_25, eJ5_append_c97b9_26, eJ5_append_c97b9_26N, eJ5_append_c97b9_27, eJ5_append_c97b9_30R, eJ5_append_c97b9_30N, eJ5_isLatin1_aae02_0, eJ5_isLatin1_aae02_3, eJ5_isLatin1_aae02_6, eJ5_isLatin1_aae02_6N, eJ5_isLatin1_aae02_7, eJ5_isLatin1_aae02_10, eJ5_isLatin1_aae02_13, eJ5_isLatin1_aae02_17, eJ5_isLatin1_aae02_18, ite_le, n45, n54, true_or, or_true, false_or, or_false, false_and, and_false, kx_l, kx_r, go_s, gl_s, gi_s, gb_s2, gb_s3, gq_s, wt_nil, wt_int, wt_long, wt_ref, wt_null, nl_int, nl_long, nl_ref, nl_null, nl_none, rf_n, rf_s, rf_st, tl_s, tl_n, g0, gS, ex1, nb_b, nb_0, nb_1, nf_i, nf_l, nf_ra, nf_ro, nf_na, nf_no, nf_b0, nf_z0, t45_4, t45_5, true_and, and_true, List.set_cons_zero, List.set_cons_succ, List.length_cons, List.length_nil, rd_s, upw_s, ne_eq, not_false_eq_true, Nat.zero_add, Nat.add_zero, if_true, if_false, eq_self, hS.1, zz1, rb, hb, rdd, hd, n1, n2, exal, al26]
  repeat' first | with_reducible refine And.intro ?_ ?_ | omega
  refine sJ6_getChars_ba4f3 hd hf hD hi0 hi1 (by omega) (by omega) (fun f' v hf' => ?_)
  simp only [eJ5_append_c97b9_33, eJ5_append_c97b9_33R, eJ5_append_c97b9_33N, eJ5_append_c97b9_34, eJ5_append_c97b9_37, eJ5_append_c97b9_38, eJ5_append_c97b9_39, eJ5_append_c97b9_40, eJ5_append_c97b9_40N, eJ5_append_c97b9_41, eJ5_append_c97b9_47, eJ5_append_c97b9_47R, eJ5_append_c97b9_47N, eJ5_append_c97b9_48, eJ5_append_c97b9_48N, eJ5_append_c97b9_49, eJ5_append_c97b9_50, eJ5_append_c97b9_53, eJ5_append_c97b9_53N, eJ5_append_c97b9_54, eJ5_append_c97b9_54N, ite_le, n45, n54, true_or, or_true, false_or, or_false, false_and, and_false, kx_l, kx_r, go_s, gl_s, gi_s, gb_s2, gb_s3, gq_s, wt_nil, wt_int, wt_long, wt_ref, wt_null, nl_int, nl_long, nl_ref, nl_null, nl_none, rf_n, rf_s, rf_st, tl_s, tl_n, g0, gS, ex1, nb_b, nb_0, nb_1, nf_i, nf_l, nf_ra, nf_ro, nf_na, nf_no, nf_b0, nf_z0, t45_4, t45_5, true_and, and_true, List.set_cons_zero, List.set_cons_succ, List.length_cons, List.length_nil, rd_s, upw_s, ne_eq, not_false_eq_true, Nat.zero_add, Nat.add_zero, if_true, if_false, eq_self, hb, n1, n2, upw_n]
  repeat' first | with_reducible refine And.intro ?_ ?_ | omega
  exact hQ _ (hT.fin hf' (by omega) (by omega))
set_option maxHeartbeats 4000000 in
theorem sJ5_append_c97b9 {mc ms : Nat} {b d N : Nat} {c i : Int32} (hS : SG g) (hT : TS g w0 b d N c w) (hD : DG g w0) (hN : N ≤ 400) (hi0 : ¬ i < 0) (hi1 : i < 10) (hmc : (N : Int) < c.toInt + 1 → 1 ≤ mc ∧ max (c.toInt + 1) (2 * (N : Int) + 2) ≤ (ms : Int)) (hQ1 : ∀ w', c.toInt + 1 ≤ (N : Int) → TS g w0 b d N (c + 1) w' → Q (.inl (some (.ref b))) w') (hQ2 : ∀ (d' N' : Nat) (w' : Hw), (N : Int) < c.toInt + 1 → (N' : Int) = max (c.toInt + 1) (2 * (N : Int) + 2) → TS g w0 b d' N' (c + 1) w' → Q (.inl (some (.ref b))) w') : WP (MJ5_append_c97b9 g mc ms) Q (0, [some (.ref b), some (.int i), none, none], [], w, 0, 0) := by
  obtain ⟨ml, f, hb, hd, hf, hc0, hc1, rb, rdd, n1, n2⟩ := hT.opn g
  have e1 := i32_p1 hc0 (by omega)
  obtain ⟨eK, eS⟩ := kE (m := c + 1) hb hd (by omega)
  have hk : kfE [.ref b, .int (c + 1)] w ≤ mc := by
    rw [eK]
    split
    · exact (hmc (by omega)).1
    · exact Nat.zero_le _
  have hs : sfE [.ref b, .int (c + 1)] w ≤ ms := by
    split at eS
    · have := (hmc (by omega)).2
      omega
    · omega
  simp only [eJ5_append_c97b9_0, eJ5_append_c97b9_0N, eJ5_append_c97b9_1, eJ5_append_c97b9_4, eJ5_append_c97b9_5, eJ5_append_c97b9_6, eJ5_append_c97b9_7, ite_le, n45, n54, true_or, or_true, false_or, or_false, false_and, and_false, kx_l, kx_r, go_s, gl_s, gi_s, gb_s2, gb_s3, gq_s, wt_nil, wt_int, wt_long, wt_ref, wt_null, nl_int, nl_long, nl_ref, nl_null, nl_none, rf_n, rf_s, rf_st, tl_s, tl_n, g0, gS, ex1, nb_b, nb_0, nb_1, nf_i, nf_l, nf_ra, nf_ro, nf_na, nf_no, nf_b0, nf_z0, t45_4, t45_5, true_and, and_true, List.set_cons_zero, List.set_cons_succ, List.length_cons, List.length_nil, rd_s, upw_s, ne_eq, not_false_eq_true, Nat.zero_add, Nat.add_zero, if_true, if_false, eq_self, rb, hb]
  repeat' first | with_reducible refine And.intro ?_ ?_ | omega
  refine sJ6_stringSize_0f7a4 hi0 hi1 ?_
  simp only [eJ5_append_c97b9_10, eJ5_append_c97b9_11, eJ5_append_c97b9_12, eJ5_append_c97b9_12N, eJ5_append_c97b9_13, eJ5_append_c97b9_14, ite_le, n45, n54, true_or, or_true, false_or, or_false, false_and, and_false, kx_l, kx_r, go_s, gl_s, gi_s, gb_s2, gb_s3, gq_s, wt_nil, wt_int, wt_long, wt_ref, wt_null, nl_int, nl_long, nl_ref, nl_null, nl_none, rf_n, rf_s, rf_st, tl_s, tl_n, g0, gS, ex1, nb_b, nb_0, nb_1, nf_i, nf_l, nf_ra, nf_ro, nf_na, nf_no, nf_b0, nf_z0, t45_4, t45_5, true_and, and_true, List.set_cons_zero, List.set_cons_succ, List.length_cons, List.length_nil, rd_s, upw_s, ne_eq, not_false_eq_true, Nat.zero_add, Nat.add_zero, if_true, if_false, eq_self, rb, hb, hk, hs]
  repeat' first | with_reducible refine And.intro ?_ ?_ | omega
  refine sJ5_ensureCapacityInternal_d00df hS hT (by omega) (by omega) (by omega) (fun h => ⟨by rw [eK, if_pos h]; exact Nat.le_refl _, by rw [eS, if_pos h]; exact Int.le_refl _⟩) (fun h => ?_) (fun d' N' w' h1 h2 hT' => ?_)
  · simp only [eJ5_append_c97b9_10, eJ5_append_c97b9_11, eJ5_append_c97b9_12, eJ5_append_c97b9_12N, eJ5_append_c97b9_13, eJ5_append_c97b9_14, ite_le, n45, n54, true_or, or_true, false_or, or_false, false_and, and_false, kx_l, kx_r, go_s, gl_s, gi_s, gb_s2, gb_s3, gq_s, wt_nil, wt_int, wt_long, wt_ref, wt_null, nl_int, nl_long, nl_ref, nl_null, nl_none, rf_n, rf_s, rf_st, tl_s, tl_n, g0, gS, ex1, nb_b, nb_0, nb_1, nf_i, nf_l, nf_ra, nf_ro, nf_na, nf_no, nf_b0, nf_z0, t45_4, t45_5, true_and, and_true, List.set_cons_zero, List.set_cons_succ, List.length_cons, List.length_nil, rd_s, upw_s, ne_eq, not_false_eq_true, Nat.zero_add, Nat.add_zero, if_true, if_false, eq_self]
    exact lJ5_append_c97b9_17 hS hT (hD.ext hT.1) (by omega) hi0 hi1 (by omega) (by omega) (by omega) (fun w' z => hQ1 w' (by omega) z)
  · simp only [eJ5_append_c97b9_10, eJ5_append_c97b9_11, eJ5_append_c97b9_12, eJ5_append_c97b9_12N, eJ5_append_c97b9_13, eJ5_append_c97b9_14, ite_le, n45, n54, true_or, or_true, false_or, or_false, false_and, and_false, kx_l, kx_r, go_s, gl_s, gi_s, gb_s2, gb_s3, gq_s, wt_nil, wt_int, wt_long, wt_ref, wt_null, nl_int, nl_long, nl_ref, nl_null, nl_none, rf_n, rf_s, rf_st, tl_s, tl_n, g0, gS, ex1, nb_b, nb_0, nb_1, nf_i, nf_l, nf_ra, nf_ro, nf_na, nf_no, nf_b0, nf_z0, t45_4, t45_5, true_and, and_true, List.set_cons_zero, List.set_cons_succ, List.length_cons, List.length_nil, rd_s, upw_s, ne_eq, not_false_eq_true, Nat.zero_add, Nat.add_zero, if_true, if_false, eq_self]
    exact lJ5_append_c97b9_17 hS hT' (hD.ext hT'.1) (by omega) hi0 hi1 (by omega) (by omega) (by omega) (fun w' z => hQ2 d' N' w' (by omega) (by omega) z)
set_option maxHeartbeats 4000000 in
theorem sJ4_append_cf468 {mc ms : Nat} {b d N : Nat} {c i : Int32} (hS : SG g) (hT : TS g w0 b d N c w) (hN : N ≤ 400) (hch : (255 < i) = False) (hmc : (N : Int) < c.toInt + 1 → 1 ≤ mc ∧ max (c.toInt + 1) (2 * (N : Int) + 2) ≤ (ms : Int)) (hQ1 : ∀ w', c.toInt + 1 ≤ (N : Int) → TS g w0 b d N (c + 1) w' → Q (.inl (some (.ref b))) w') (hQ2 : ∀ (d' N' : Nat) (w' : Hw), (N : Int) < c.toInt + 1 → (N' : Int) = max (c.toInt + 1) (2 * (N : Int) + 2) → TS g w0 b d' N' (c + 1) w' → Q (.inl (some (.ref b))) w') : WP (MJ4_append_cf468 g mc ms) Q (0, [some (.ref b), some (.int i)], [], w, 0, 0) := by
  obtain ⟨ml, f, hb, hd, hf, hc0, hc1, rb, rdd, n1, n2⟩ := hT.opn g
  have e1 := i32_p1 hc0 (by omega)
  obtain ⟨eK, eS⟩ := kE (m := c + 1) hb hd (by omega)
  rw [← sbCnt_v hb, ← kfI_v (m := i)] at eK
  rw [← sbCnt_v hb, ← sfI_v (m := i)] at eS
  rw [sbCnt_v hb] at eK eS
  have hk : kfI [.ref b, .int i] w ≤ mc := by
    rw [eK]
    split
    · exact (hmc (by omega)).1
    · exact Nat.zero_le _
  have hs : sfI [.ref b, .int i] w ≤ ms := by
    split at eS
    · have := (hmc (by omega)).2
      omega
    · omega
  simp only [eJ4_append_cf468_0, eJ4_append_cf468_0N, eJ4_append_cf468_1, eJ4_append_cf468_2, ite_le, n45, n54, true_or, or_true, false_or, or_false, false_and, and_false, kx_l, kx_r, go_s, gl_s, gi_s, gb_s2, gb_s3, gq_s, wt_nil, wt_int, wt_long, wt_ref, wt_null, nl_int, nl_long, nl_ref, nl_null, nl_none, rf_n, rf_s, rf_st, tl_s, tl_n, g0, gS, ex1, nb_b, nb_0, nb_1, nf_i, nf_l, nf_ra, nf_ro, nf_na, nf_no, nf_b0, nf_z0, t45_4, t45_5, true_and, and_true, List.set_cons_zero, List.set_cons_succ, List.length_cons, List.length_nil, rd_s, upw_s, ne_eq, not_false_eq_true, Nat.zero_add, Nat.add_zero, if_true, if_false, eq_self, rb, hb, hk, hs]
  repeat' first | with_reducible refine And.intro ?_ ?_ | omega
  refine sJ5_append_3fe6f hS hT  (by omega) hch (fun h => ⟨by rw [eK, if_pos (by omega)]; exact Nat.le_refl _, by rw [eS, if_pos (by omega), e1]; exact Int.le_refl _⟩) (fun w' h z => ?_) (fun d' N' w' h h2 z => ?_)
  · simp only [eJ4_append_cf468_0, eJ4_append_cf468_0N, eJ4_append_cf468_1, eJ4_append_cf468_2, eJ4_append_cf468_5, eJ4_append_cf468_5R, eJ4_append_cf468_5N, eJ4_append_cf468_6, eJ4_append_cf468_6N, eJ4_append_cf468_7, eJ4_append_cf468_7N, ite_le, n45, n54, true_or, or_true, false_or, or_false, false_and, and_false, kx_l, kx_r, go_s, gl_s, gi_s, gb_s2, gb_s3, gq_s, wt_nil, wt_int, wt_long, wt_ref, wt_null, nl_int, nl_long, nl_ref, nl_null, nl_none, rf_n, rf_s, rf_st, tl_s, tl_n, g0, gS, ex1, nb_b, nb_0, nb_1, nf_i, nf_l, nf_ra, nf_ro, nf_na, nf_no, nf_b0, nf_z0, t45_4, t45_5, true_and, and_true, List.set_cons_zero, List.set_cons_succ, List.length_cons, List.length_nil, rd_s, upw_s, ne_eq, not_false_eq_true, Nat.zero_add, Nat.add_zero, if_true, if_false, eq_self]
    exact ⟨by omega, by omega, hQ1 w' h z⟩
  · simp only [eJ4_append_cf468_0, eJ4_append_cf468_0N, eJ4_append_cf468_1, eJ4_append_cf468_2, eJ4_append_cf468_5, eJ4_append_cf468_5R, eJ4_append_cf468_5N, eJ4_append_cf468_6, eJ4_append_cf468_6N, eJ4_append_cf468_7, eJ4_append_cf468_7N, ite_le, n45, n54, true_or, or_true, false_or, or_false, false_and, and_false, kx_l, kx_r, go_s, gl_s, gi_s, gb_s2, gb_s3, gq_s, wt_nil, wt_int, wt_long, wt_ref, wt_null, nl_int, nl_long, nl_ref, nl_null, nl_none, rf_n, rf_s, rf_st, tl_s, tl_n, g0, gS, ex1, nb_b, nb_0, nb_1, nf_i, nf_l, nf_ra, nf_ro, nf_na, nf_no, nf_b0, nf_z0, t45_4, t45_5, true_and, and_true, List.set_cons_zero, List.set_cons_succ, List.length_cons, List.length_nil, rd_s, upw_s, ne_eq, not_false_eq_true, Nat.zero_add, Nat.add_zero, if_true, if_false, eq_self]
    exact ⟨by omega, by omega, hQ2 d' N' w' h h2 z⟩
set_option maxHeartbeats 4000000 in
theorem sJ4_append_bf812 {mc ms : Nat} {b d N : Nat} {c i : Int32} (hS : SG g) (hT : TS g w0 b d N c w) (hD : DG g w0) (hN : N ≤ 400) (hi0 : ¬ i < 0) (hi1 : i < 10) (hmc : (N : Int) < c.toInt + 1 → 1 ≤ mc ∧ max (c.toInt + 1) (2 * (N : Int) + 2) ≤ (ms : Int)) (hQ1 : ∀ w', c.toInt + 1 ≤ (N : Int) → TS g w0 b d N (c + 1) w' → Q (.inl (some (.ref b))) w') (hQ2 : ∀ (d' N' : Nat) (w' : Hw), (N : Int) < c.toInt + 1 → (N' : Int) = max (c.toInt + 1) (2 * (N : Int) + 2) → TS g w0 b d' N' (c + 1) w' → Q (.inl (some (.ref b))) w') : WP (MJ4_append_bf812 g mc ms) Q (0, [some (.ref b), some (.int i)], [], w, 0, 0) := by
  obtain ⟨ml, f, hb, hd, hf, hc0, hc1, rb, rdd, n1, n2⟩ := hT.opn g
  have e1 := i32_p1 hc0 (by omega)
  obtain ⟨eK, eS⟩ := kE (m := c + 1) hb hd (by omega)
  rw [← sbCnt_v hb, ← kfI_v (m := i)] at eK
  rw [← sbCnt_v hb, ← sfI_v (m := i)] at eS
  rw [sbCnt_v hb] at eK eS
  have hk : kfI [.ref b, .int i] w ≤ mc := by
    rw [eK]
    split
    · exact (hmc (by omega)).1
    · exact Nat.zero_le _
  have hs : sfI [.ref b, .int i] w ≤ ms := by
    split at eS
    · have := (hmc (by omega)).2
      omega
    · omega
  simp only [eJ4_append_bf812_0, eJ4_append_bf812_0N, eJ4_append_bf812_1, eJ4_append_bf812_2, ite_le, n45, n54, true_or, or_true, false_or, or_false, false_and, and_false, kx_l, kx_r, go_s, gl_s, gi_s, gb_s2, gb_s3, gq_s, wt_nil, wt_int, wt_long, wt_ref, wt_null, nl_int, nl_long, nl_ref, nl_null, nl_none, rf_n, rf_s, rf_st, tl_s, tl_n, g0, gS, ex1, nb_b, nb_0, nb_1, nf_i, nf_l, nf_ra, nf_ro, nf_na, nf_no, nf_b0, nf_z0, t45_4, t45_5, true_and, and_true, List.set_cons_zero, List.set_cons_succ, List.length_cons, List.length_nil, rd_s, upw_s, ne_eq, not_false_eq_true, Nat.zero_add, Nat.add_zero, if_true, if_false, eq_self, rb, hb, hk, hs]
  repeat' first | with_reducible refine And.intro ?_ ?_ | omega
  refine sJ5_append_c97b9 hS hT hD (by omega) hi0 hi1 (fun h => ⟨by rw [eK, if_pos (by omega)]; exact Nat.le_refl _, by rw [eS, if_pos (by omega), e1]; exact Int.le_refl _⟩) (fun w' h z => ?_) (fun d' N' w' h h2 z => ?_)
  · simp only [eJ4_append_bf812_0, eJ4_append_bf812_0N, eJ4_append_bf812_1, eJ4_append_bf812_2, eJ4_append_bf812_5, eJ4_append_bf812_5R, eJ4_append_bf812_5N, eJ4_append_bf812_6, eJ4_append_bf812_6N, eJ4_append_bf812_7, eJ4_append_bf812_7N, ite_le, n45, n54, true_or, or_true, false_or, or_false, false_and, and_false, kx_l, kx_r, go_s, gl_s, gi_s, gb_s2, gb_s3, gq_s, wt_nil, wt_int, wt_long, wt_ref, wt_null, nl_int, nl_long, nl_ref, nl_null, nl_none, rf_n, rf_s, rf_st, tl_s, tl_n, g0, gS, ex1, nb_b, nb_0, nb_1, nf_i, nf_l, nf_ra, nf_ro, nf_na, nf_no, nf_b0, nf_z0, t45_4, t45_5, true_and, and_true, List.set_cons_zero, List.set_cons_succ, List.length_cons, List.length_nil, rd_s, upw_s, ne_eq, not_false_eq_true, Nat.zero_add, Nat.add_zero, if_true, if_false, eq_self]
    exact ⟨by omega, by omega, hQ1 w' h z⟩
  · simp only [eJ4_append_bf812_0, eJ4_append_bf812_0N, eJ4_append_bf812_1, eJ4_append_bf812_2, eJ4_append_bf812_5, eJ4_append_bf812_5R, eJ4_append_bf812_5N, eJ4_append_bf812_6, eJ4_append_bf812_6N, eJ4_append_bf812_7, eJ4_append_bf812_7N, ite_le, n45, n54, true_or, or_true, false_or, or_false, false_and, and_false, kx_l, kx_r, go_s, gl_s, gi_s, gb_s2, gb_s3, gq_s, wt_nil, wt_int, wt_long, wt_ref, wt_null, nl_int, nl_long, nl_ref, nl_null, nl_none, rf_n, rf_s, rf_st, tl_s, tl_n, g0, gS, ex1, nb_b, nb_0, nb_1, nf_i, nf_l, nf_ra, nf_ro, nf_na, nf_no, nf_b0, nf_z0, t45_4, t45_5, true_and, and_true, List.set_cons_zero, List.set_cons_succ, List.length_cons, List.length_nil, rd_s, upw_s, ne_eq, not_false_eq_true, Nat.zero_add, Nat.add_zero, if_true, if_false, eq_self]
    exact ⟨by omega, by omega, hQ2 d' N' w' h h2 z⟩
end
end
/-! 60.text6.lean.txt -/
section
section
variable {g : RO} {Q : Ot → Hw → Prop} {w0 w : Hw}
theorem i32_sr1 {a : Int32} : (a >>> ((1 : Int32) &&& 31)).toInt = a.toInt / 2 := by
  have e : ((1 : Int32) &&& 31) = 1 := rfl
  rw [e]
  have h : (a >>> (1 : Int32)).toBitVec = a.toBitVec.sshiftRight 1 := by
    rw [Int32.toBitVec_shiftRight]
    rfl
  show (a >>> (1 : Int32)).toBitVec.toInt = a.toBitVec.toInt / 2
  rw [h, BitVec.toInt_sshiftRight, Int.shiftRight_eq_div_pow]
  rfl
theorem td10 (y : Int) : -10 < y - y.tdiv 10 * 10 ∧ y - y.tdiv 10 * 10 < 10 ∧ (0 ≤ y → 0 ≤ y.tdiv 10 ∧ y.tdiv 10 * 10 ≤ y) ∧ (y ≤ 0 → y.tdiv 10 ≤ 0 ∧ y ≤ y.tdiv 10 * 10) := by
  rcases Int.le_total 0 y with h | h
  · rw [Int.tdiv_eq_ediv_of_nonneg h]
    omega
  · obtain ⟨n, rfl⟩ : ∃ n : Int, y = -n := ⟨-y, by omega⟩
    rw [Int.neg_tdiv, Int.tdiv_eq_ediv_of_nonneg (by omega)]
    omega
theorem dig10 {x : Int64} {a : Int32} (h : (x - x / 10 * 10).toInt32 = a) : ¬ (if 0 ≤ a then a else 0 - a) < 0 ∧ (if 0 ≤ a then a else 0 - a) < 10 := by
  obtain ⟨h1, h2, h3, h4⟩ := td10 x.toInt
  have e : (10 : Int64).toInt = 10 := rfl
  have b := i64_bd x
  have d : (x / 10).toInt = x.toInt.tdiv 10 := by
    rw [Int64.toInt_div, e]
    exact Int.bmod_eq_of_le (by omega) (by omega)
  have m : (x / 10 * 10).toInt = x.toInt.tdiv 10 * 10 := by
    rw [Int64.toInt_mul, e, d]
    exact Int.bmod_eq_of_le (by omega) (by omega)
  have s : (x - x / 10 * 10).toInt = x.toInt - x.toInt.tdiv 10 * 10 := by
    rw [Int64.toInt_sub, m]
    exact Int.bmod_eq_of_le (by omega) (by omega)
  have ha : a.toInt = x.toInt - x.toInt.tdiv 10 * 10 := by
    rw [← h, Int64.toInt_toInt32, s]
    exact Int.bmod_eq_of_le (by omega) (by omega)
  have z0 : (0 : Int32).toInt = 0 := rfl
  have z10 : (10 : Int32).toInt = 10 := rfl
  generalize x.toInt.tdiv 10 = t at *
  clear d m s h
  split
  · next hp =>
    have hp := Int32.le_iff_toInt_le.mp hp
    exact ⟨i32_of_nlt (by omega), i32_of_lt (by omega)⟩
  · next hp =>
    have hp : a.toInt < 0 := by
      have := mt Int32.le_iff_toInt_le.mpr hp
      omega
    have hn : (0 - a).toInt = -a.toInt := by
      rw [i32_sub (by rw [z0]; omega) (by rw [z0]; omega), z0]
      omega
    exact ⟨i32_of_nlt (by rw [hn, z0]; omega), i32_of_lt (by rw [hn, z10]; omega)⟩
/-- the places that a builder has, what it may still ask for -/
def CP (N : Nat) : Prop := N = 16 ∨ N = 34 ∨ N = 70 ∨ N = 142
def pC (N : Nat) : Nat := if N = 16 then 3 else if N = 34 then 2 else if N = 70 then 1 else 0
def pS (N : Nat) : Nat := if N = 16 then 246 else if N = 34 then 212 else if N = 70 then 142 else 0
theorem CP.le {N : Nat} (h : CP N) : N ≤ 400 := by rcases h with rfl | rfl | rfl | rfl <;> decide
theorem CP.nx {N N' : Nat} {c : Int} (h : CP N) (hc : c ≤ (N : Int)) (hc2 : c < 142) (h1 : (N : Int) < c + 1) (h2 : (N' : Int) = max (c + 1) (2 * (N : Int) + 2)) : CP N' ∧ 1 + pC N' ≤ pC N ∧ 2 * N + 2 + pS N' ≤ pS N ∧ max (c + 1) (2 * (N : Int) + 2) = 2 * (N : Int) + 2 := by
  rcases h with rfl | rfl | rfl | rfl
  · obtain rfl : N' = 34 := by omega
    exact ⟨Or.inr (Or.inl rfl), by decide, by decide, by omega⟩
  · obtain rfl : N' = 70 := by omega
    exact ⟨Or.inr (Or.inr (Or.inl rfl)), by decide, by decide, by omega⟩
  · obtain rfl : N' = 142 := by omega
    exact ⟨Or.inr (Or.inr (Or.inr rfl)), by decide, by decide, by omega⟩
  · omega
theorem kI {w : Hw} {b d N : Nat} {c i ml : Int32} {f : Nat → Int32} (hN : CP N) (h1 : w b = some (.inr (1, [.ref d, .int 0, .int ml, .int c]))) (h2 : w d = some (.inl (2, N, .inl f))) (h0 : 0 ≤ c.toInt) (hc : c.toInt ≤ (N : Int)) (hc2 : c.toInt < 142) : kfI [.ref b, .int i] w ≤ pC N ∧ sfI [.ref b, .int i] w ≤ pS N ∧ (kfI [.ref b, .int i] w = if (N : Int) < c.toInt + 1 then 1 else 0) ∧ (sfI [.ref b, .int i] w = if (N : Int) < c.toInt + 1 then 2 * N + 2 else 0) := by
  have e1 := i32_p1 h0 (by omega)
  obtain ⟨eK, eS⟩ := kE (m := c + 1) h1 h2 (by omega)
  rw [kfI_v, sfI_v, sbCnt_v h1, eK]
  rw [e1] at eS ⊢
  by_cases h : (N : Int) < c.toInt + 1
  · obtain ⟨N', hN'⟩ : ∃ N' : Nat, (N' : Int) = max (c.toInt + 1) (2 * (N : Int) + 2) := ⟨(max (c.toInt + 1) (2 * (N : Int) + 2)).toNat, by omega⟩
    obtain ⟨-, q1, q2, q3⟩ := hN.nx hc hc2 h hN'
    rw [if_pos h] at eS ⊢
    rw [if_pos h]
    exact ⟨by omega, by omega, rfl, by omega⟩
  · rw [if_neg h] at eS ⊢
    rw [if_neg h]
    exact ⟨Nat.zero_le _, by omega, rfl, by omega⟩
theorem sapC {b d N : Nat} {c i : Int32} (hS : SG g) (hT : TS g w0 b d N c w) (hN : CP N) (hc : c.toInt < 142) (hch : (255 < i) = False) (hQ : ∀ (d' N' : Nat) (w' : Hw), CP N' → kfI [.ref b, .int i] w + pC N' ≤ pC N → sfI [.ref b, .int i] w + pS N' ≤ pS N → TS g w0 b d' N' (c + 1) w' → Q (.inl (some (.ref b))) w') : WP (MJ4_append_cf468 g (kfI [.ref b, .int i] w) (sfI [.ref b, .int i] w)) Q (0, [some (.ref b), some (.int i)], [], w, 0, 0) := by
  obtain ⟨ml, f, hb, hd, hf, hc0, hc1, rb, rdd, n1, n2⟩ := hT.opn g
  obtain ⟨k1, k2, k3, k4⟩ := kI (i := i) hN hb hd hc0 hc1 hc
  refine sJ4_append_cf468 hS hT  hN.le hch (fun h => ?_) (fun w' h z => ?_) (fun d' N' w' h h2 z => ?_)
  · obtain ⟨N', hN'⟩ : ∃ N' : Nat, (N' : Int) = max (c.toInt + 1) (2 * (N : Int) + 2) := ⟨(max (c.toInt + 1) (2 * (N : Int) + 2)).toNat, by omega⟩
    obtain ⟨-, q1, q2, q3⟩ := hN.nx hc1 hc h hN'
    rw [if_pos h] at k3 k4
    exact ⟨by omega, by omega⟩
  · rw [if_neg (by omega)] at k3 k4
    exact hQ _ _ _ hN (by omega) (by omega) z
  · obtain ⟨q0, q1, q2, q3⟩ := hN.nx hc1 hc h h2
    rw [if_pos h] at k3 k4
    exact hQ _ _ _ q0 (by omega) (by omega) z
theorem sapI {b d N : Nat} {c i : Int32} (hS : SG g) (hT : TS g w0 b d N c w) (hN : CP N) (hc : c.toInt < 142) (hD : DG g w0) (hi0 : ¬ i < 0) (hi1 : i < 10) (hQ : ∀ (d' N' : Nat) (w' : Hw), CP N' → kfI [.ref b, .int i] w + pC N' ≤ pC N → sfI [.ref b, .int i] w + pS N' ≤ pS N → TS g w0 b d' N' (c + 1) w' → Q (.inl (some (.ref b))) w') : WP (MJ4_append_bf812 g (kfI [.ref b, .int i] w) (sfI [.ref b, .int i] w)) Q (0, [some (.ref b), some (.int i)], [], w, 0, 0) := by
  obtain ⟨ml, f, hb, hd, hf, hc0, hc1, rb, rdd, n1, n2⟩ := hT.opn g
  obtain ⟨k1, k2, k3, k4⟩ := kI (i := i) hN hb hd hc0 hc1 hc
  refine sJ4_append_bf812 hS hT hD hN.le hi0 hi1 (fun h => ?_) (fun w' h z => ?_) (fun d' N' w' h h2 z => ?_)
  · obtain ⟨N', hN'⟩ : ∃ N' : Nat, (N' : Int) = max (c.toInt + 1) (2 * (N : Int) + 2) := ⟨(max (c.toInt + 1) (2 * (N : Int) + 2)).toNat, by omega⟩
    obtain ⟨-, q1, q2, q3⟩ := hN.nx hc1 hc h hN'
    rw [if_pos h] at k3 k4
    exact ⟨by omega, by omega⟩
  · rw [if_neg (by omega)] at k3 k4
    exact hQ _ _ _ hN (by omega) (by omega) z
  · obtain ⟨q0, q1, q2, q3⟩ := hN.nx hc1 hc h h2
    rw [if_pos h] at k3 k4
    exact hQ _ _ _ q0 (by omega) (by omega) z
theorem zr0 : ((0 : Int32) = 0) = True := eq_true rfl
end
end
/-! 60.text7.lean.txt -/
section
section
variable {g : RO} {Q : Ot → Hw → Prop} {w0 w : Hw}
theorem TS.byt {w0 w : Hw} {b d N : Nat} {c : Int32} {f' : Nat → Int32} (h : TS g w0 b d N c w) (hf : bOK N f') : TS g w0 b d N c (upw w d (.inl (2, N, .inl f'))) := by
  obtain ⟨ml, f, hb, hd, -, h0, h1, -, -, n1, n2⟩ := h.opn g
  exact ⟨h.1.own h.2.1.2.1 h.2.1.2.2.2, h.2.1, ml, f', by rw [upw_n n1]; exact hb, upw_s _ _ _, hf, h0, h1⟩
theorem sub0 (a : Int32) : a - 0 = a := by simp
theorem i32_t0 {a : Int32} (h : a.toInt < 0) : (a < 0) = True := eq_true (i32_of_lt (by have e : (0 : Int32).toInt = 0 := rfl; omega))
set_option maxHeartbeats 4000000 in
theorem lJ5_reverse_278bc_28 {b d N : Nat} {c n : Int32} (hN : N ≤ 1000) (hn : n.toInt < (N : Int)) (hn1 : -1 ≤ n.toInt) (hQ : ∀ w', TS g w0 b d N c w' → Q (.inl (some (.ref b))) w') : ∀ (e : Nat) (j : Int32) (l5 l6 : Option Value) (w : Hw), j.toInt + 1 ≤ e → -1 ≤ j.toInt → j.toInt ≤ n.toInt → TS g w0 b d N c w →
    WP (MJ5_reverse_278bc g) Q (28, [some (.ref b), some (.ref d), some (.int c), some (.int n), some (.int j), l5, l6], [], w, 0, 0) := by
  intro e
  induction e with
  | zero =>
    intro j l5 l6 w h1 h2 h3 hT
    have t : (j < 0) = True := i32_t0 (by omega)
    rw [eJ5_reverse_278bc_28]
    simp only [eJ5_reverse_278bc_30, eJ5_reverse_278bc_33, eJ5_reverse_278bc_39, eJ5_reverse_278bc_39N, eJ5_reverse_278bc_40, eJ5_reverse_278bc_43, eJ5_reverse_278bc_45, eJ5_reverse_278bc_45N, eJ5_reverse_278bc_46, eJ5_reverse_278bc_48, eJ5_reverse_278bc_48N, eJ5_reverse_278bc_49, eJ5_reverse_278bc_52, eJ5_reverse_278bc_53, eJ5_reverse_278bc_53N, eJ5_reverse_278bc_54, eJ5_reverse_278bc_59, eJ5_reverse_278bc_65, eJ5_reverse_278bc_68, eJ5_reverse_278bc_68N, eJ5_reverse_278bc_69, eJ5_reverse_278bc_73, eJ5_reverse_278bc_73N, eJ5_reverse_278bc_74, eJ5_reverse_278bc_74N, ite_le, n45, n54, true_or, or_true, false_or, or_false, false_and, and_false, kx_l, kx_r, go_s, gl_s, gi_s, gb_s2, gb_s3, gq_s, wt_nil, wt_int, wt_long, wt_ref, wt_null, nl_int, nl_long, nl_ref, nl_null, nl_none, rf_n, rf_s, rf_st, tl_s, tl_n, g0, gS, ex1, nb_b, nb_0, nb_1, nf_i, nf_l, nf_ra, nf_ro, nf_na, nf_no, nf_b0, nf_z0, t45_4, t45_5, true_and, and_true, List.set_cons_zero, List.set_cons_succ, List.length_cons, List.length_nil, rd_s, upw_s, ne_eq, not_false_eq_true, Nat.zero_add, Nat.add_zero, if_true, if_false, eq_self, t]
    repeat' first | with_reducible refine And.intro ?_ ?_ | omega
    exact hQ _ hT
  | succ e ih =>
    intro j l5 l6 w h1 h2 h3 hT
    obtain ⟨ml, f, hb, hd, hf, hc0, hc1, rb, rdd, n1, n2⟩ := hT.opn g
    rw [eJ5_reverse_278bc_28]
    simp only [eJ5_reverse_278bc_30, ite_le, n45, n54, true_or, or_true, false_or, or_false, false_and, and_false, kx_l, kx_r, go_s, gl_s, gi_s, gb_s2, gb_s3, gq_s, wt_nil, wt_int, wt_long, wt_ref, wt_null, nl_int, nl_long, nl_ref, nl_null, nl_none, rf_n, rf_s, rf_st, tl_s, tl_n, g0, gS, ex1, nb_b, nb_0, nb_1, nf_i, nf_l, nf_ra, nf_ro, nf_na, nf_no, nf_b0, nf_z0, t45_4, t45_5, true_and, and_true, List.set_cons_zero, List.set_cons_succ, List.length_cons, List.length_nil, rd_s, upw_s, ne_eq, not_false_eq_true, Nat.zero_add, Nat.add_zero, if_true, if_false, eq_self]
    split
    · simp only [eJ5_reverse_278bc_65, eJ5_reverse_278bc_68, eJ5_reverse_278bc_68N, eJ5_reverse_278bc_69, eJ5_reverse_278bc_73, eJ5_reverse_278bc_73N, eJ5_reverse_278bc_74, eJ5_reverse_278bc_74N, ite_le, n45, n54, true_or, or_true, false_or, or_false, false_and, and_false, kx_l, kx_r, go_s, gl_s, gi_s, gb_s2, gb_s3, gq_s, wt_nil, wt_int, wt_long, wt_ref, wt_null, nl_int, nl_long, nl_ref, nl_null, nl_none, rf_n, rf_s, rf_st, tl_s, tl_n, g0, gS, ex1, nb_b, nb_0, nb_1, nf_i, nf_l, nf_ra, nf_ro, nf_na, nf_no, nf_b0, nf_z0, t45_4, t45_5, true_and, and_true, List.set_cons_zero, List.set_cons_succ, List.length_cons, List.length_nil, rd_s, upw_s, ne_eq, not_false_eq_true, Nat.zero_add, Nat.add_zero, if_true, if_false, eq_self]
      repeat' first | with_reducible refine And.intro ?_ ?_ | omega
      exact hQ _ hT
    · next hj =>
      have hj := i32_0 hj
      obtain ⟨q, hq⟩ : ∃ q, n - j = q := ⟨_, rfl⟩
      have eq : q.toInt = n.toInt - j.toInt := by
        rw [← hq]
        exact i32_sub (by omega) (by omega)
      have jv : vp_in j N := vpiN (by omega) (by omega)
      have qv : vp_in q N := vpiN (by omega) (by omega)
      have ej : (j + -1).toInt = j.toInt - 1 := i32_m1 (by omega)
      simp only [eJ5_reverse_278bc_33, eJ5_reverse_278bc_39, eJ5_reverse_278bc_39N, eJ5_reverse_278bc_40, eJ5_reverse_278bc_43, eJ5_reverse_278bc_45, eJ5_reverse_278bc_45N, eJ5_reverse_278bc_46, eJ5_reverse_278bc_48, eJ5_reverse_278bc_48N, eJ5_reverse_278bc_49, eJ5_reverse_278bc_52, eJ5_reverse_278bc_53, eJ5_reverse_278bc_53N, eJ5_reverse_278bc_54, eJ5_reverse_278bc_59, ite_le, n45, n54, true_or, or_true, false_or, or_false, false_and, and_false, kx_l, kx_r, go_s, gl_s, gi_s, gb_s2, gb_s3, gq_s, wt_nil, wt_int, wt_long, wt_ref, wt_null, nl_int, nl_long, nl_ref, nl_null, nl_none, rf_n, rf_s, rf_st, tl_s, tl_n, g0, gS, ex1, nb_b, nb_0, nb_1, nf_i, nf_l, nf_ra, nf_ro, nf_na, nf_no, nf_b0, nf_z0, t45_4, t45_5, true_and, and_true, List.set_cons_zero, List.set_cons_succ, List.length_cons, List.length_nil, rd_s, upw_s, ne_eq, not_false_eq_true, Nat.zero_add, Nat.add_zero, if_true, if_false, eq_self, hq, rb, hb, rdd, hd, n1, n2, bty_2, upw2, jv, qv]
      repeat' first | with_reducible refine And.intro ?_ ?_ | omega
      exact ih _ _ _ _ (by omega) (by omega) (by omega) (hT.byt (bOK_up (bOK_up hf _ _) _ _))
set_option maxHeartbeats 4000000 in
theorem sJ5_reverse_278bc {b d N : Nat} {c : Int32} (hS : SG g) (hT : TS g w0 b d N c w) (hN : N ≤ 1000) (hQ : ∀ w', TS g w0 b d N c w' → Q (.inl (some (.ref b))) w') : WP (MJ5_reverse_278bc g) Q (0, [some (.ref b), none, none, none, none, none, none], [], w, 0, 0) := by
  obtain ⟨ml, f, hb, hd, hf, hc0, hc1, rb, rdd, n1, n2⟩ := hT.opn g
  have z1 : (1 : Int32).toInt = 1 := rfl
  obtain ⟨m, hm⟩ : ∃ m, c - 1 = m := ⟨_, rfl⟩
  obtain ⟨m2, hm2⟩ : ∃ m2, m - 1 = m2 := ⟨_, rfl⟩
  obtain ⟨j, hj⟩ : ∃ j, m2 >>> ((1 : Int32) &&& 31) = j := ⟨_, rfl⟩
  have e1 : m.toInt = c.toInt - 1 := by
    rw [← hm, i32_sub (by omega) (by omega), z1]
  have e2 : m2.toInt = m.toInt - 1 := by
    rw [← hm2, i32_sub (by omega) (by omega), z1]
  have e3 : j.toInt = m2.toInt / 2 := by rw [← hj, i32_sr1]
  simp only [eJ5_reverse_278bc_0, eJ5_reverse_278bc_0N, eJ5_reverse_278bc_1, eJ5_reverse_278bc_4, eJ5_reverse_278bc_4N, eJ5_reverse_278bc_5, eJ5_reverse_278bc_5N, eJ5_reverse_278bc_6, eJ5_reverse_278bc_9, eJ5_reverse_278bc_14, eJ5_reverse_278bc_14N, eJ5_reverse_278bc_15, eJ5_reverse_278bc_18, eJ5_reverse_278bc_21, eJ5_isLatin1_aae02_0, eJ5_isLatin1_aae02_3, eJ5_isLatin1_aae02_6, eJ5_isLatin1_aae02_6N, eJ5_isLatin1_aae02_7, eJ5_isLatin1_aae02_10, eJ5_isLatin1_aae02_13, eJ5_isLatin1_aae02_17, eJ5_isLatin1_aae02_18, ite_le, n45, n54, true_or, or_true, false_or, or_false, false_and, and_false, kx_l, kx_r, go_s, gl_s, gi_s, gb_s2, gb_s3, gq_s, wt_nil, wt_int, wt_long, wt_ref, wt_null, nl_int, nl_long, nl_ref, nl_null, nl_none, rf_n, rf_s, rf_st, tl_s, tl_n, g0, gS, ex1, nb_b, nb_0, nb_1, nf_i, nf_l, nf_ra, nf_ro, nf_na, nf_no, nf_b0, nf_z0, t45_4, t45_5, true_and, and_true, List.set_cons_zero, List.set_cons_succ, List.length_cons, List.length_nil, rd_s, upw_s, ne_eq, not_false_eq_true, Nat.zero_add, Nat.add_zero, if_true, if_false, eq_self, hS.1, zz1, hm, hm2, hj, rb]
  repeat' first | with_reducible refine And.intro ?_ ?_ | omega
  exact lJ5_reverse_278bc_28 hN (by omega) (by omega) hQ 2000 _ _ _ _ (by omega) (by omega) (by omega) hT
theorem i16n : (16 : Int32).toNatClampNeg = 16 := rfl
theorem n160 : ((16 : Int32) < 0) = False := eq_false (by decide)
set_option maxHeartbeats 4000000 in
theorem sJ4_init_da8c8 {b : Nat} (hS : SG g) (hX : ext g w0 w) (hb : w b = some (.inr (1, [.null, .int 0, .int 0, .int 0]))) (hb0 : w0 b = none) (hg : g.2 b = none) (hQ : ∀ q w', TS g w0 b q 16 0 w' → Q (.inl none) w') : WP (MJ4_init_da8c8 g) Q (0, [some (.ref b)], [], w, 0, 0) := by
  simp only [eJ4_init_da8c8_0, eJ4_init_da8c8_0N, eJ4_init_da8c8_1, eJ5_init_d00df_0, eJ5_init_d00df_0N, eJ5_init_d00df_1, eJ5_init_d00df_4, eJ5_init_d00df_7, eJ5_init_d00df_10, eJ5_init_d00df_10N, eJ5_init_d00df_11, eJ5_init_d00df_14, eJ5_init_d00df_17, eJ5_init_d00df_17N, eJ5_init_d00df_18, eJ5_init_d00df_22, eJ5_init_d00df_25, eJ5_init_d00df_25N, eJ5_init_d00df_26, eJ5_init_d00df_30, eJ5_init_d00df_33, eJ5_init_d00df_33N, eJ5_init_d00df_34, eJ5_init_d00df_38, ite_le, n45, n54, true_or, or_true, false_or, or_false, false_and, and_false, kx_l, kx_r, go_s, gl_s, gi_s, gb_s2, gb_s3, gq_s, wt_nil, wt_int, wt_long, wt_ref, wt_null, nl_int, nl_long, nl_ref, nl_null, nl_none, rf_n, rf_s, rf_st, tl_s, tl_n, g0, gS, ex1, nb_b, nb_0, nb_1, nf_i, nf_l, nf_ra, nf_ro, nf_na, nf_no, nf_b0, nf_z0, t45_4, t45_5, true_and, and_true, List.set_cons_zero, List.set_cons_succ, List.length_cons, List.length_nil, rd_s, upw_s, ne_eq, not_false_eq_true, Nat.zero_add, Nat.add_zero, if_true, if_false, eq_self, hS.1, zz1, i16n, n160]
  repeat' first | with_reducible refine And.intro ?_ ?_ | omega
  intro q hq
  have hqn := rd_none hq
  have hqb : b ≠ q := fun e => by
    rw [← e, hb] at hqn
    cases hqn
  have hw0 : w0 q = none := by
    cases hz : w0 q with
    | none => rfl
    | some o =>
      have := hX.1 q o hz
      rw [hqn] at this
      cases this
  simp only [eJ5_init_d00df_0, eJ5_init_d00df_0N, eJ5_init_d00df_1, eJ5_init_d00df_4, eJ5_init_d00df_7, eJ5_init_d00df_10, eJ5_init_d00df_10N, eJ5_init_d00df_11, eJ5_init_d00df_14, eJ5_init_d00df_17, eJ5_init_d00df_17N, eJ5_init_d00df_18, eJ5_init_d00df_22, eJ5_init_d00df_25, eJ5_init_d00df_25N, eJ5_init_d00df_26, eJ5_init_d00df_30, eJ5_init_d00df_33, eJ5_init_d00df_33N, eJ5_init_d00df_34, eJ5_init_d00df_38, eJ4_init_da8c8_0, eJ4_init_da8c8_0N, eJ4_init_da8c8_1, eJ4_init_da8c8_6, ite_le, n45, n54, true_or, or_true, false_or, or_false, false_and, and_false, kx_l, kx_r, go_s, gl_s, gi_s, gb_s2, gb_s3, gq_s, wt_nil, wt_int, wt_long, wt_ref, wt_null, nl_int, nl_long, nl_ref, nl_null, nl_none, rf_n, rf_s, rf_st, tl_s, tl_n, g0, gS, ex1, nb_b, nb_0, nb_1, nf_i, nf_l, nf_ra, nf_ro, nf_na, nf_no, nf_b0, nf_z0, t45_4, t45_5, true_and, and_true, List.set_cons_zero, List.set_cons_succ, List.length_cons, List.length_nil, rd_s, upw_s, ne_eq, not_false_eq_true, Nat.zero_add, Nat.add_zero, if_true, if_false, eq_self, hb, hqb, upw_n, upw2, tyJ4, i16n]
  repeat' first | with_reducible refine And.intro ?_ ?_ | omega
  all_goals first | exact trivial | exact hQ q _ ⟨(hX.own hw0 (rd_ro hq)).own hb0 hg, ⟨hb0, hw0, hg, rd_ro hq⟩, 0, fun _ => 0, upw_s _ _ _, by rw [upw_n hqb.symm]; exact upw_s _ _ _, bOK_0 _, by decide, by decide⟩
set_option maxHeartbeats 4000000 in
theorem sJ4_reverse_43fcb {b d N : Nat} {c : Int32} (hS : SG g) (hT : TS g w0 b d N c w) (hN : N ≤ 1000) (hQ : ∀ w', TS g w0 b d N c w' → Q (.inl (some (.ref b))) w') : WP (MJ4_reverse_43fcb g) Q (0, [some (.ref b)], [], w, 0, 0) := by
  obtain ⟨ml, f, hb, hd, hf, hc0, hc1, rb, rdd, n1, n2⟩ := hT.opn g
  simp only [eJ4_reverse_43fcb_0, eJ4_reverse_43fcb_0N, eJ4_reverse_43fcb_1, ite_le, n45, n54, true_or, or_true, false_or, or_false, false_and, and_false, kx_l, kx_r, go_s, gl_s, gi_s, gb_s2, gb_s3, gq_s, wt_nil, wt_int, wt_long, wt_ref, wt_null, nl_int, nl_long, nl_ref, nl_null, nl_none, rf_n, rf_s, rf_st, tl_s, tl_n, g0, gS, ex1, nb_b, nb_0, nb_1, nf_i, nf_l, nf_ra, nf_ro, nf_na, nf_no, nf_b0, nf_z0, t45_4, t45_5, true_and, and_true, List.set_cons_zero, List.set_cons_succ, List.length_cons, List.length_nil, rd_s, upw_s, ne_eq, not_false_eq_true, Nat.zero_add, Nat.add_zero, if_true, if_false, eq_self, rb]
  repeat' first | with_reducible refine And.intro ?_ ?_ | omega
  refine sJ5_reverse_278bc hS hT hN (fun w' z => ?_)
  simp only [eJ4_reverse_43fcb_4, eJ4_reverse_43fcb_4R, eJ4_reverse_43fcb_4N, eJ4_reverse_43fcb_5, eJ4_reverse_43fcb_5N, eJ4_reverse_43fcb_6, eJ4_reverse_43fcb_6N, ite_le, n45, n54, true_or, or_true, false_or, or_false, false_and, and_false, kx_l, kx_r, go_s, gl_s, gi_s, gb_s2, gb_s3, gq_s, wt_nil, wt_int, wt_long, wt_ref, wt_null, nl_int, nl_long, nl_ref, nl_null, nl_none, rf_n, rf_s, rf_st, tl_s, tl_n, g0, gS, ex1, nb_b, nb_0, nb_1, nf_i, nf_l, nf_ra, nf_ro, nf_na, nf_no, nf_b0, nf_z0, t45_4, t45_5, true_and, and_true, List.set_cons_zero, List.set_cons_succ, List.length_cons, List.length_nil, rd_s, upw_s, ne_eq, not_false_eq_true, Nat.zero_add, Nat.add_zero, if_true, if_false, eq_self]
  repeat' first | with_reducible refine And.intro ?_ ?_ | omega
  exact hQ _ z
end
end
/-! 60.text8.lean.txt -/
section
section
variable {g : RO} {Q : Ot → Hw → Prop} {w0 w : Hw}
theorem mn {c : Int32} {N : Nat} (hN : N ≤ 1000) (h0 : 0 ≤ c.toInt) (h1 : c.toInt ≤ (N : Int)) : (if c < Int32.ofNat N then c else Int32.ofNat N) = c := by
  split
  · rfl
  · next h =>
    have h := i32_nlt h
    have e := ofN (N := N) (by omega)
    exact Int32.toInt_inj.mp (by omega)
set_option maxHeartbeats 4000000 in
theorem sJ7_copyOfRange_39247 {a N : Nat} {c : Int32} {f : Nat → Int32} (hd : w a = some (.inl (2, N, .inl f))) (hf : bOK N f) (hN : N ≤ 1000) (h0 : 0 ≤ c.toInt) (h1 : c.toInt ≤ (N : Int)) (h2 : c.toInt ≤ 90) (hQ : ∀ (q M : Nat) (f' : Nat → Int32), rd g w q = none → Q (.inl (some (.ref q))) (upw w q (.inl (2, M, .inl f')))) : WP (MJ7_copyOfRange_39247 g) Q (0, [some (.ref a), some (.int 0), some (.int c)], [], w, 0, 0) := by
  have rdd := rd_e (g := g) hd
  have e := ofN (N := N) (by omega)
  have z0 : (0 : Int32).toInt = 0 := rfl
  have c0 : (c < 0) = False := eq_false (i32_of_nlt (by omega))
  have cc : ((0 : Int32) ≤ c) = True := eq_true (Int32.le_iff_toInt_le.mpr (by omega))
  have ev : c.toNatClampNeg = c.toInt.toNat := rfl
  have c4 : c.toNatClampNeg ≤ 40000 := by omega
  have c9 : c.toNatClampNeg ≤ 90 := by omega
  have zn : (0 : Int32).toNatClampNeg = 0 := rfl
  have z00 : ((0 : Int32) < 0) = False := eq_false (by decide)
  have m := mn hN h0 h1
  simp only [eJ7_copyOfRange_39247_0, eJ7_copyOfRange_39247_4, eJ7_copyOfRange_39247_5, eJ7_copyOfRange_39247_5N, eJ7_copyOfRange_39247_6, eJ7_copyOfRange_39247_7, ite_le, n45, n54, true_or, or_true, false_or, or_false, false_and, and_false, kx_l, kx_r, go_s, gl_s, gi_s, gb_s2, gb_s3, gq_s, wt_nil, wt_int, wt_long, wt_ref, wt_null, nl_int, nl_long, nl_ref, nl_null, nl_none, rf_n, rf_s, rf_st, tl_s, tl_n, g0, gS, ex1, nb_b, nb_0, nb_1, nf_i, nf_l, nf_ra, nf_ro, nf_na, nf_no, nf_b0, nf_z0, t45_4, t45_5, true_and, and_true, List.set_cons_zero, List.set_cons_succ, List.length_cons, List.length_nil, rd_s, upw_s, ne_eq, not_false_eq_true, Nat.zero_add, Nat.add_zero, if_true, if_false, eq_self, rdd, exal, al26, zr0]
  split
  · next h =>
    have hNN : N ≤ 90 := by
      rw [h, e] at h2
      omega
    simp only [eJ7_copyOfRange_39247_17, eJ7_copyOfRange_39247_17N, eJ7_copyOfRange_39247_18, ite_le, n45, n54, true_or, or_true, false_or, or_false, false_and, and_false, kx_l, kx_r, go_s, gl_s, gi_s, gb_s2, gb_s3, gq_s, wt_nil, wt_int, wt_long, wt_ref, wt_null, nl_int, nl_long, nl_ref, nl_null, nl_none, rf_n, rf_s, rf_st, tl_s, tl_n, g0, gS, ex1, nb_b, nb_0, nb_1, nf_i, nf_l, nf_ra, nf_ro, nf_na, nf_no, nf_b0, nf_z0, t45_4, t45_5, true_and, and_true, List.set_cons_zero, List.set_cons_succ, List.length_cons, List.length_nil, rd_s, upw_s, ne_eq, not_false_eq_true, Nat.zero_add, Nat.add_zero, if_true, if_false, eq_self, eJ7_copyOfRange_39247_18 hd]
    repeat' first | with_reducible refine And.intro ?_ ?_ | omega
    · exact hf
    · intro q hq
      simp only [eJ7_copyOfRange_39247_21N, eJ7_copyOfRange_39247_21R, eJ7_copyOfRange_39247_24, ite_le, n45, n54, true_or, or_true, false_or, or_false, false_and, and_false, kx_l, kx_r, go_s, gl_s, gi_s, gb_s2, gb_s3, gq_s, wt_nil, wt_int, wt_long, wt_ref, wt_null, nl_int, nl_long, nl_ref, nl_null, nl_none, rf_n, rf_s, rf_st, tl_s, tl_n, g0, gS, ex1, nb_b, nb_0, nb_1, nf_i, nf_l, nf_ra, nf_ro, nf_na, nf_no, nf_b0, nf_z0, t45_4, t45_5, true_and, and_true, List.set_cons_zero, List.set_cons_succ, List.length_cons, List.length_nil, rd_s, upw_s, ne_eq, not_false_eq_true, Nat.zero_add, Nat.add_zero, if_true, if_false, eq_self]
      repeat' first | with_reducible refine And.intro ?_ ?_ | omega
      all_goals first | exact ⟨_, rfl⟩ | exact hQ _ _ _ hq
  · simp only [eJ7_copyOfRange_39247_5N, eJ7_copyOfRange_39247_10, eJ7_copyOfRange_39247_10N, eJ7_copyOfRange_39247_11, eJ7_copyOfRange_39247_13R, eJ7_copyOfRange_39247_13N, eJ7_copyOfRange_39247_16, eJ7_copyOfRange_39247_17N, eJ7_copyOfRange_39247_21N, eJ7_copyOfRange_39247_21R, eJ7_copyOfRangeByte_39247_0, eJ7_copyOfRangeByte_39247_5, eJ7_copyOfRangeByte_39247_12, eJ7_copyOfRangeByte_39247_12N, eJ7_copyOfRangeByte_39247_14, eJ7_copyOfRangeByte_39247_14N, eJ7_copyOfRangeByte_39247_15, eJ7_copyOfRangeByte_39247_16, eJ7_copyOfRangeByte_39247_16N, eJ7_copyOfRangeByte_39247_18, eJ7_copyOfRangeByte_39247_19, eJ7_copyOfRangeByte_39247_19N, eJ7_copyOfRangeByte_39247_20, eJ7_copyOfRangeByte_39247_21, eJ7_copyOfRangeByte_39247_27O, eJ7_copyOfRangeByte_39247_27B, eJ7_copyOfRangeByte_39247_30, eJ7_copyOfRangeByte_39247_30N, eJ7_copyOfRangeByte_39247_32, eJ7_checkLength_df160_0, eJ7_checkLength_df160_8, eJ7_checkLength_df160_8R, eJ7_checkLength_df160_9, eJ7_checkLength_df160_12, eJ7_checkLength_df160_12R, eJ7_checkLength_df160_16, eJ7_checkLength_df160_26, eJ7_checkLength_df160_37, ite_le, n45, n54, true_or, or_true, false_or, or_false, false_and, and_false, kx_l, kx_r, go_s, gl_s, gi_s, gb_s2, gb_s3, gq_s, wt_nil, wt_int, wt_long, wt_ref, wt_null, nl_int, nl_long, nl_ref, nl_null, nl_none, rf_n, rf_s, rf_st, tl_s, tl_n, g0, gS, ex1, nb_b, nb_0, nb_1, nf_i, nf_l, nf_ra, nf_ro, nf_na, nf_no, nf_b0, nf_z0, t45_4, t45_5, true_and, and_true, List.set_cons_zero, List.set_cons_succ, List.length_cons, List.length_nil, rd_s, upw_s, ne_eq, not_false_eq_true, Nat.zero_add, Nat.add_zero, if_true, if_false, eq_self, sub0, cc, c0, c4, c9]
    repeat' first | with_reducible refine And.intro ?_ ?_ | omega
    intro q hq
    have hne : a ≠ q := fun h => by
      subst h
      rw [rdd] at hq
      cases hq
    have ra : rd g (upw w q (.inl (2, c.toNatClampNeg, .inl fun _ => 0))) a = some (.inl (2, N, .inl f)) := by rw [rd_n hne]; exact rdd
    simp only [eJ7_copyOfRange_39247_5N, eJ7_copyOfRange_39247_10, eJ7_copyOfRange_39247_10N, eJ7_copyOfRange_39247_11, eJ7_copyOfRange_39247_13R, eJ7_copyOfRange_39247_13N, eJ7_copyOfRange_39247_16, eJ7_copyOfRange_39247_17N, eJ7_copyOfRange_39247_21N, eJ7_copyOfRange_39247_21R, eJ7_copyOfRangeByte_39247_0, eJ7_copyOfRangeByte_39247_5, eJ7_copyOfRangeByte_39247_12, eJ7_copyOfRangeByte_39247_12N, eJ7_copyOfRangeByte_39247_14, eJ7_copyOfRangeByte_39247_14N, eJ7_copyOfRangeByte_39247_15, eJ7_copyOfRangeByte_39247_16, eJ7_copyOfRangeByte_39247_16N, eJ7_copyOfRangeByte_39247_18, eJ7_copyOfRangeByte_39247_19, eJ7_copyOfRangeByte_39247_19N, eJ7_copyOfRangeByte_39247_20, eJ7_copyOfRangeByte_39247_21, eJ7_copyOfRangeByte_39247_27O, eJ7_copyOfRangeByte_39247_27B, eJ7_copyOfRangeByte_39247_30, eJ7_copyOfRangeByte_39247_30N, eJ7_copyOfRangeByte_39247_32, ite_le, n45, n54, true_or, or_true, false_or, or_false, false_and, and_false, kx_l, kx_r, go_s, gl_s, gi_s, gb_s2, gb_s3, gq_s, wt_nil, wt_int, wt_long, wt_ref, wt_null, nl_int, nl_long, nl_ref, nl_null, nl_none, rf_n, rf_s, rf_st, tl_s, tl_n, g0, gS, ex1, nb_b, nb_0, nb_1, nf_i, nf_l, nf_ra, nf_ro, nf_na, nf_no, nf_b0, nf_z0, t45_4, t45_5, true_and, and_true, List.set_cons_zero, List.set_cons_succ, List.length_cons, List.length_nil, rd_s, upw_s, ne_eq, not_false_eq_true, Nat.zero_add, Nat.add_zero, if_true, if_false, eq_self, sub0, exal, al26, ra, m, c0, z00, zn, upw2, eJ7_copyOfRangeByte_39247_27B ra (upw_s _ _ _)]
    repeat' first | with_reducible refine And.intro ?_ ?_ | omega
    · intro j hj
      exact hf j (by omega)
    · exact hQ _ _ _ hq
set_option maxHeartbeats 4000000 in
theorem sJ4_toString_0e30d {b d N : Nat} {c : Int32} (hS : SG g) (hT : TS g w0 b d N c w) (hN : N ≤ 1000) (hc : c.toInt ≤ 90) (hQ : ∀ q w', ext g w0 w' → Q (.inl (some (.ref q))) w') : WP (MJ4_toString_0e30d g) Q (0, [some (.ref b)], [], w, 0, 0) := by
  obtain ⟨ml, f, hb, hd, hf, hc0, hc1, rb, rdd, n1, n2⟩ := hT.opn g
  simp only [eJ4_toString_0e30d_0, ite_le, n45, n54, true_or, or_true, false_or, or_false, false_and, and_false, kx_l, kx_r, go_s, gl_s, gi_s, gb_s2, gb_s3, gq_s, wt_nil, wt_int, wt_long, wt_ref, wt_null, nl_int, nl_long, nl_ref, nl_null, nl_none, rf_n, rf_s, rf_st, tl_s, tl_n, g0, gS, ex1, nb_b, nb_0, nb_1, nf_i, nf_l, nf_ra, nf_ro, nf_na, nf_no, nf_b0, nf_z0, t45_4, t45_5, true_and, and_true, List.set_cons_zero, List.set_cons_succ, List.length_cons, List.length_nil, rd_s, upw_s, ne_eq, not_false_eq_true, Nat.zero_add, Nat.add_zero, if_true, if_false, eq_self]
  repeat' first | with_reducible refine And.intro ?_ ?_ | omega
  intro q hq
  have hqn := rd_none hq
  have hqb : b ≠ q := fun e => by
    rw [← e, hb] at hqn
    cases hqn
  have hqd : d ≠ q := fun e => by
    rw [← e, hd] at hqn
    cases hqn
  have hw0 : w0 q = none := by
    cases hz : w0 q with
    | none => rfl
    | some o =>
      have := hT.1.1 q o hz
      rw [hqn] at this
      cases this
  simp only [eJ4_toString_0e30d_0, eJ4_toString_0e30d_3, eJ4_toString_0e30d_3R, eJ4_toString_0e30d_4, eJ4_toString_0e30d_4N, eJ4_toString_0e30d_5R, eJ4_toString_0e30d_5N, eJ4_toString_0e30d_8, eJ4_toString_0e30d_8N, eJ0_init_81219_0, eJ0_init_81219_0N, eJ0_init_81219_1, eJ0_init_81219_1N, eJ0_init_81219_2, eJ0_init_81219_3RR, eJ0_init_81219_3NR, eJ0_init_81219_3RN, eJ0_init_81219_3NN, eJ0_init_81219_6, eJ0_init_db425_0, eJ0_init_db425_0N, eJ0_init_db425_1, eJ0_init_db425_4, eJ0_init_db425_4N, eJ0_init_db425_5, eJ0_init_db425_8, eJ0_init_db425_8N, eJ0_init_db425_9, eJ0_init_db425_9N, eJ0_init_db425_10, eJ0_init_db425_13, eJ0_init_db425_15, eJ0_init_db425_15N, eJ0_init_db425_16, eJ0_init_db425_19, eJ0_init_db425_22, eJ0_init_db425_22N, eJ0_init_db425_23, eJ0_init_db425_27, eJ0_init_db425_27N, eJ0_init_db425_28, eJ0_init_db425_28N, eJ0_init_db425_29, eJ0_init_db425_32R, eJ0_init_db425_32N, eJ0_init_db425_35, eJ0_init_db425_38, eJ0_init_db425_41, eJ0_init_db425_44, eJ0_init_db425_47, eJ0_init_db425_47N, eJ0_init_db425_48, eJ0_init_db425_51, eJ0_init_db425_54, eJ0_init_db425_54N, eJ0_init_db425_55, eJ0_init_db425_55N, eJ0_init_db425_56, eJ0_init_db425_62, eJ0_init_db425_65, eJ0_init_db425_65N, eJ0_init_db425_66, eJ0_init_db425_66N, eJ0_init_db425_67, eJ0_init_db425_70, eJ0_init_db425_75, eJ0_init_db425_78, eJ0_init_db425_79, eJ0_init_db425_79N, eJ0_init_db425_80, eJ0_init_db425_84, eJ0_init_db425_84N, eJ0_init_db425_85, eJ0_init_db425_85N, eJ0_init_db425_86, eJ0_init_db425_91R, eJ0_init_db425_91N, eJ0_init_db425_94, eJ0_init_db425_97, eJ5_getValue_6d5f1_0, eJ5_getValue_6d5f1_0N, eJ5_getValue_6d5f1_1, eJ5_getValue_6d5f1_4, eJ5_length_8abf5_0, eJ5_length_8abf5_0N, eJ5_length_8abf5_1, eJ5_length_8abf5_4, eJ4_length_8abf5_0, eJ4_length_8abf5_0N, eJ4_length_8abf5_1, eJ4_length_8abf5_4, eJ5_isLatin1_aae02_0, eJ5_isLatin1_aae02_3, eJ5_isLatin1_aae02_6, eJ5_isLatin1_aae02_6N, eJ5_isLatin1_aae02_7, eJ5_isLatin1_aae02_10, eJ5_isLatin1_aae02_13, eJ5_isLatin1_aae02_17, eJ5_isLatin1_aae02_18, ite_le, n45, n54, true_or, or_true, false_or, or_false, false_and, and_false, kx_l, kx_r, go_s, gl_s, gi_s, gb_s2, gb_s3, gq_s, wt_nil, wt_int, wt_long, wt_ref, wt_null, nl_int, nl_long, nl_ref, nl_null, nl_none, rf_n, rf_s, rf_st, tl_s, tl_n, g0, gS, ex1, nb_b, nb_0, nb_1, nf_i, nf_l, nf_ra, nf_ro, nf_na, nf_no, nf_b0, nf_z0, t45_4, t45_5, true_and, and_true, List.set_cons_zero, List.set_cons_succ, List.length_cons, List.length_nil, rd_s, upw_s, ne_eq, not_false_eq_true, Nat.zero_add, Nat.add_zero, if_true, if_false, eq_self, hS.1, zz1, rb, hb, hqb, upw_n, rd_n, upw2, rdd]
  repeat' first | with_reducible refine And.intro ?_ ?_ | omega
  refine sJ7_copyOfRange_39247 (a := d) (N := N) (f := f) (by rw [upw_n hqd]; exact hd) hf hN hc0 hc1 hc (fun q2 M f' hq2 => ?_)
  have hq2n := rd_none hq2
  have hqq : q ≠ q2 := fun e => by
    rw [← e, upw_s] at hq2n
    cases hq2n
  have hw2 : w0 q2 = none := by
    cases hz : w0 q2 with
    | none => rfl
    | some o =>
      have := hT.1.1 q2 o hz
      rw [upw_n hqq.symm, this] at hq2n
      cases hq2n
  simp only [eJ4_toString_0e30d_0, eJ4_toString_0e30d_3, eJ4_toString_0e30d_3R, eJ4_toString_0e30d_4, eJ4_toString_0e30d_4N, eJ4_toString_0e30d_5R, eJ4_toString_0e30d_5N, eJ4_toString_0e30d_8, eJ4_toString_0e30d_8N, eJ0_init_81219_0, eJ0_init_81219_0N, eJ0_init_81219_1, eJ0_init_81219_1N, eJ0_init_81219_2, eJ0_init_81219_3RR, eJ0_init_81219_3NR, eJ0_init_81219_3RN, eJ0_init_81219_3NN, eJ0_init_81219_6, eJ0_init_db425_0, eJ0_init_db425_0N, eJ0_init_db425_1, eJ0_init_db425_4, eJ0_init_db425_4N, eJ0_init_db425_5, eJ0_init_db425_8, eJ0_init_db425_8N, eJ0_init_db425_9, eJ0_init_db425_9N, eJ0_init_db425_10, eJ0_init_db425_13, eJ0_init_db425_15, eJ0_init_db425_15N, eJ0_init_db425_16, eJ0_init_db425_19, eJ0_init_db425_22, eJ0_init_db425_22N, eJ0_init_db425_23, eJ0_init_db425_27, eJ0_init_db425_27N, eJ0_init_db425_28, eJ0_init_db425_28N, eJ0_init_db425_29, eJ0_init_db425_32R, eJ0_init_db425_32N, eJ0_init_db425_35, eJ0_init_db425_38, eJ0_init_db425_41, eJ0_init_db425_44, eJ0_init_db425_47, eJ0_init_db425_47N, eJ0_init_db425_48, eJ0_init_db425_51, eJ0_init_db425_54, eJ0_init_db425_54N, eJ0_init_db425_55, eJ0_init_db425_55N, eJ0_init_db425_56, eJ0_init_db425_62, eJ0_init_db425_65, eJ0_init_db425_65N, eJ0_init_db425_66, eJ0_init_db425_66N, eJ0_init_db425_67, eJ0_init_db425_70, eJ0_init_db425_75, eJ0_init_db425_78, eJ0_init_db425_79, eJ0_init_db425_79N, eJ0_init_db425_80, eJ0_init_db425_84, eJ0_init_db425_84N, eJ0_init_db425_85, eJ0_init_db425_85N, eJ0_init_db425_86, eJ0_init_db425_91R, eJ0_init_db425_91N, eJ0_init_db425_94, eJ0_init_db425_97, ite_le, n45, n54, true_or, or_true, false_or, or_false, false_and, and_false, kx_l, kx_r, go_s, gl_s, gi_s, gb_s2, gb_s3, gq_s, wt_nil, wt_int, wt_long, wt_ref, wt_null, nl_int, nl_long, nl_ref, nl_null, nl_none, rf_n, rf_s, rf_st, tl_s, tl_n, g0, gS, ex1, nb_b, nb_0, nb_1, nf_i, nf_l, nf_ra, nf_ro, nf_na, nf_no, nf_b0, nf_z0, t45_4, t45_5, true_and, and_true, List.set_cons_zero, List.set_cons_succ, List.length_cons, List.length_nil, rd_s, upw_s, ne_eq, not_false_eq_true, Nat.zero_add, Nat.add_zero, if_true, if_false, eq_self, hqq, upw_n, upw2, tyJ0]
  repeat' first | with_reducible refine And.intro ?_ ?_ | omega
  all_goals first | exact trivial | exact hQ q _ (((hT.1.own hw0 (rd_ro hq)).own hw2 (rd_ro hq2)).own hw0 (rd_ro hq))
end
end
/-! 60.texu0.lean.txt -/
section
section
variable {g : RO} {Q : Ot → Hw → Prop} {w0 w : Hw}
set_option maxHeartbeats 4000000 in
theorem lJ5_append_66267_19 {k n : Nat} {b d N kk : Nat} {c s : Int32} {x : Int64} (hS : SG g) (hD : DG g w) (hT : TS g w0 b d N c w) (hN : N ≤ 1000) (k1 : 1 ≤ kk) (hs : s.toInt = c.toInt + (kk + (if x.toInt < 0 then 1 else 0))) (ha : -((10 : Int) ^ kk) < x.toInt) (hb' : x.toInt < (10 : Int) ^ kk) (hsN : s.toInt ≤ (N : Int)) (hk : k ≤ 1) (hn : n ≤ 170) (hQ : ∀ w', TS g w0 b d N s w' → Q (.inl (some (.ref b))) w') : WP (MJ5_append_66267 g) Q (19, [some (.ref b), some (.long x), none, some (.int c), some (.int s)], [], w, k, n) := by
  obtain ⟨ml, f, hb, hd, hf, hc0, hc1, rb, rdd, n1, n2⟩ := hT.opn g
  simp only [eJ5_append_66267_19, eJ5_append_66267_19N, eJ5_append_66267_20, eJ5_append_66267_23, eJ5_append_66267_26, eJ5_append_66267_29, eJ5_append_66267_29N, eJ5_append_66267_30, eJ5_append_66267_33R, eJ5_append_66267_33N, eJ5_isLatin1_aae02_0, eJ5_isLatin1_aae02_3, eJ5_isLatin1_aae02_6, eJ5_isLatin1_aae02_6N, eJ5_isLatin1_aae02_7, eJ5_isLatin1_aae02_10, eJ5_isLatin1_aae02_13, eJ5_isLatin1_aae02_17, eJ5_isLatin1_aae02_18, ite_le, n45, n54, true_or, or_true, false_or, or_false, false_and, and_false, kx_l, kx_r, go_s, gl_s, gi_s, gb_s2, gb_s3, gq_s, wt_nil, wt_int, wt_long, wt_ref, wt_null, nl_int, nl_long, nl_ref, nl_null, nl_none, rf_n, rf_s, rf_st, tl_s, tl_n, g0, gS, ex1, nb_b, nb_0, nb_1, nf_i, nf_l, nf_ra, nf_ro, nf_na, nf_no, nf_b0, nf_z0, t45_4, t45_5, true_and, and_true, List.set_cons_zero, List.set_cons_succ, List.length_cons, List.length_nil, rd_s, upw_s, ne_eq, not_false_eq_true, Nat.zero_add, Nat.add_zero, if_true, if_false, eq_self, hS.1, zz1, rb, hb, rdd, hd, n1, n2, exal, al26]
  repeat' first | with_reducible refine And.intro ?_ ?_ | omega
  refine sJ13_getChars_11360 (kk := kk) (by omega) k1 ha hb' (by omega) hsN hd hf hD (fun f' v hf' => ?_)
  simp only [eJ5_append_66267_36, eJ5_append_66267_36R, eJ5_append_66267_36N, eJ5_append_66267_37, eJ5_append_66267_40, eJ5_append_66267_44, eJ5_append_66267_44N, eJ5_append_66267_45, eJ5_append_66267_51, eJ5_append_66267_51R, eJ5_append_66267_51N, eJ5_append_66267_52, eJ5_append_66267_52N, eJ5_append_66267_53, eJ5_append_66267_58, eJ5_append_66267_58N, eJ5_append_66267_59, eJ5_append_66267_59N, ite_le, n45, n54, true_or, or_true, false_or, or_false, false_and, and_false, kx_l, kx_r, go_s, gl_s, gi_s, gb_s2, gb_s3, gq_s, wt_nil, wt_int, wt_long, wt_ref, wt_null, nl_int, nl_long, nl_ref, nl_null, nl_none, rf_n, rf_s, rf_st, tl_s, tl_n, g0, gS, ex1, nb_b, nb_0, nb_1, nf_i, nf_l, nf_ra, nf_ro, nf_na, nf_no, nf_b0, nf_z0, t45_4, t45_5, true_and, and_true, List.set_cons_zero, List.set_cons_succ, List.length_cons, List.length_nil, rd_s, upw_s, ne_eq, not_false_eq_true, Nat.zero_add, Nat.add_zero, if_true, if_false, eq_self, hb, n1, n2, upw_n]
  repeat' first | with_reducible refine And.intro ?_ ?_ | omega
  exact hQ _ (hT.fin hf' (by split at hs <;> omega) hsN)
set_option maxHeartbeats 4000000 in
theorem sJ5_append_66267 {b d N : Nat} {c : Int32} {x : Int64} (hS : SG g) (hT : TS g w0 b d N c w) (hN : N ≤ 170) (hc : c.toInt ≤ 63) (hD : DG g w0) (hQ : ∀ (d' N' : Nat) (c' : Int32) (w' : Hw), N' ≤ 170 → c.toInt ≤ c'.toInt → c'.toInt ≤ c.toInt + 20 → TS g w0 b d' N' c' w' → Q (.inl (some (.ref b))) w') : WP (MJ5_append_66267 g) Q (0, [some (.ref b), some (.long x), none, none, none], [], w, 0, 0) := by
  obtain ⟨ml, f, hb, hd, hf, hc0, hc1, rb, rdd, n1, n2⟩ := hT.opn g
  simp only [eJ5_append_66267_0, eJ5_append_66267_0N, eJ5_append_66267_1, eJ5_append_66267_4, ite_le, n45, n54, true_or, or_true, false_or, or_false, false_and, and_false, kx_l, kx_r, go_s, gl_s, gi_s, gb_s2, gb_s3, gq_s, wt_nil, wt_int, wt_long, wt_ref, wt_null, nl_int, nl_long, nl_ref, nl_null, nl_none, rf_n, rf_s, rf_st, tl_s, tl_n, g0, gS, ex1, nb_b, nb_0, nb_1, nf_i, nf_l, nf_ra, nf_ro, nf_na, nf_no, nf_b0, nf_z0, t45_4, t45_5, true_and, and_true, List.set_cons_zero, List.set_cons_succ, List.length_cons, List.length_nil, rd_s, upw_s, ne_eq, not_false_eq_true, Nat.zero_add, Nat.add_zero, if_true, if_false, eq_self, rb, hb]
  repeat' first | with_reducible refine And.intro ?_ ?_ | omega
  refine sJ13_stringSize_95d88 (fun v kk k1 k2 k3 k4 k5 => ?_)
  have hv : 1 ≤ v.toInt ∧ v.toInt ≤ 20 := by split at k3 <;> omega
  obtain ⟨s, hs0⟩ : ∃ s, c + v = s := ⟨_, rfl⟩
  have e1 : s.toInt = c.toInt + v.toInt := by
    rw [← hs0]
    exact i32_add (by omega) (by omega)
  obtain ⟨eK, eS⟩ := kE (m := s) hb hd (by omega)
  have hk : kfE [.ref b, .int s] w ≤ 1 := by
    rw [eK]
    split <;> omega
  have hs : sfE [.ref b, .int s] w ≤ 170 := by
    split at eS <;> omega
  simp only [eJ5_append_66267_10, eJ5_append_66267_13, eJ5_append_66267_13N, eJ5_append_66267_14, ite_le, n45, n54, true_or, or_true, false_or, or_false, false_and, and_false, kx_l, kx_r, go_s, gl_s, gi_s, gb_s2, gb_s3, gq_s, wt_nil, wt_int, wt_long, wt_ref, wt_null, nl_int, nl_long, nl_ref, nl_null, nl_none, rf_n, rf_s, rf_st, tl_s, tl_n, g0, gS, ex1, nb_b, nb_0, nb_1, nf_i, nf_l, nf_ra, nf_ro, nf_na, nf_no, nf_b0, nf_z0, t45_4, t45_5, true_and, and_true, List.set_cons_zero, List.set_cons_succ, List.length_cons, List.length_nil, rd_s, upw_s, ne_eq, not_false_eq_true, Nat.zero_add, Nat.add_zero, if_true, if_false, eq_self, rb, hb, hs0, hk, hs]
  repeat' first | with_reducible refine And.intro ?_ ?_ | omega
  refine sJ5_ensureCapacityInternal_d00df hS hT (by omega) (by omega) (by omega) (fun h => ⟨by rw [eK, if_pos h]; exact Nat.le_refl _, by rw [eS, if_pos h]; exact Int.le_refl _⟩) (fun h => ?_) (fun d' N' w' h1 h2 hT' => ?_)
  · simp only [eJ5_append_66267_10, eJ5_append_66267_13, eJ5_append_66267_13N, eJ5_append_66267_14, ite_le, n45, n54, true_or, or_true, false_or, or_false, false_and, and_false, kx_l, kx_r, go_s, gl_s, gi_s, gb_s2, gb_s3, gq_s, wt_nil, wt_int, wt_long, wt_ref, wt_null, nl_int, nl_long, nl_ref, nl_null, nl_none, rf_n, rf_s, rf_st, tl_s, tl_n, g0, gS, ex1, nb_b, nb_0, nb_1, nf_i, nf_l, nf_ra, nf_ro, nf_na, nf_no, nf_b0, nf_z0, t45_4, t45_5, true_and, and_true, List.set_cons_zero, List.set_cons_succ, List.length_cons, List.length_nil, rd_s, upw_s, ne_eq, not_false_eq_true, Nat.zero_add, Nat.add_zero, if_true, if_false, eq_self]
    exact lJ5_append_66267_19 hS (hD.ext hT.1) hT (by omega) k1 (by rw [e1, k3]) k4 k5 h (by omega) (by omega) (fun w' z => hQ _ _ _ _ hN (by omega) (by omega) z)
  · simp only [eJ5_append_66267_10, eJ5_append_66267_13, eJ5_append_66267_13N, eJ5_append_66267_14, ite_le, n45, n54, true_or, or_true, false_or, or_false, false_and, and_false, kx_l, kx_r, go_s, gl_s, gi_s, gb_s2, gb_s3, gq_s, wt_nil, wt_int, wt_long, wt_ref, wt_null, nl_int, nl_long, nl_ref, nl_null, nl_none, rf_n, rf_s, rf_st, tl_s, tl_n, g0, gS, ex1, nb_b, nb_0, nb_1, nf_i, nf_l, nf_ra, nf_ro, nf_na, nf_no, nf_b0, nf_z0, t45_4, t45_5, true_and, and_true, List.set_cons_zero, List.set_cons_succ, List.length_cons, List.length_nil, rd_s, upw_s, ne_eq, not_false_eq_true, Nat.zero_add, Nat.add_zero, if_true, if_false, eq_self]
    exact lJ5_append_66267_19 hS (hD.ext hT'.1) hT' (by omega) k1 (by rw [e1, k3]) k4 k5 (by omega) (by omega) (by omega) (fun w' z => hQ _ _ _ _ (by omega) (by omega) (by omega) z)
set_option maxHeartbeats 4000000 in
theorem sJ4_append_f7089 {b d N : Nat} {c : Int32} {x : Int64} (hS : SG g) (hT : TS g w0 b d N c w) (hN : N ≤ 170) (hc : c.toInt ≤ 63) (hD : DG g w0) (hQ : ∀ (d' N' : Nat) (c' : Int32) (w' : Hw), N' ≤ 170 → c.toInt ≤ c'.toInt → c'.toInt ≤ c.toInt + 20 → TS g w0 b d' N' c' w' → Q (.inl (some (.ref b))) w') : WP (MJ4_append_f7089 g) Q (0, [some (.ref b), some (.long x), none], [], w, 0, 0) := by
  obtain ⟨ml, f, hb, hd, hf, hc0, hc1, rb, rdd, n1, n2⟩ := hT.opn g
  simp only [eJ4_append_f7089_0, eJ4_append_f7089_0N, eJ4_append_f7089_1, ite_le, n45, n54, true_or, or_true, false_or, or_false, false_and, and_false, kx_l, kx_r, go_s, gl_s, gi_s, gb_s2, gb_s3, gq_s, wt_nil, wt_int, wt_long, wt_ref, wt_null, nl_int, nl_long, nl_ref, nl_null, nl_none, rf_n, rf_s, rf_st, tl_s, tl_n, g0, gS, ex1, nb_b, nb_0, nb_1, nf_i, nf_l, nf_ra, nf_ro, nf_na, nf_no, nf_b0, nf_z0, t45_4, t45_5, true_and, and_true, List.set_cons_zero, List.set_cons_succ, List.length_cons, List.length_nil, rd_s, upw_s, ne_eq, not_false_eq_true, Nat.zero_add, Nat.add_zero, if_true, if_false, eq_self, rb]
  repeat' first | with_reducible refine And.intro ?_ ?_ | omega
  refine sJ5_append_66267 hS hT hN hc hD (fun d' N' c' w' h1 h2 h3 z => ?_)
  simp only [eJ4_append_f7089_5, eJ4_append_f7089_5R, eJ4_append_f7089_5N, eJ4_append_f7089_6, eJ4_append_f7089_6N, eJ4_append_f7089_7, eJ4_append_f7089_7N, ite_le, n45, n54, true_or, or_true, false_or, or_false, false_and, and_false, kx_l, kx_r, go_s, gl_s, gi_s, gb_s2, gb_s3, gq_s, wt_nil, wt_int, wt_long, wt_ref, wt_null, nl_int, nl_long, nl_ref, nl_null, nl_none, rf_n, rf_s, rf_st, tl_s, tl_n, g0, gS, ex1, nb_b, nb_0, nb_1, nf_i, nf_l, nf_ra, nf_ro, nf_na, nf_no, nf_b0, nf_z0, t45_4, t45_5, true_and, and_true, List.set_cons_zero, List.set_cons_succ, List.length_cons, List.length_nil, rd_s, upw_s, ne_eq, not_false_eq_true, Nat.zero_add, Nat.add_zero, if_true, if_false, eq_self]
  repeat' first | with_reducible refine And.intro ?_ ?_ | omega
  exact hQ _ _ _ _ h1 h2 h3 z
end
end
/-! 60.texu1.lean.txt -/
section
section
variable {g : RO} {Q : Ot → Hw → Prop} {w0 w : Hw}
/-- a text of the program's own -/
def STO (g : RO) (w : Hw) (s : Nat) : Prop := ∃ (v M : Nat) (f : Nat → Int32) (h z : Value), g.2 s = some (.inr (0, [.ref v, .int 0, h, z])) ∧ w s = none ∧ g.2 v = some (.inl (2, M, .inl f)) ∧ w v = none ∧ bOK M f ∧ M ≤ 8
/-- its length is at most Ml -/
def STB (g : RO) (s Ml : Nat) : Prop := ∀ (v M0 : Nat) (f : Nat → Int32) (h z : Value), g.2 s = some (.inr (0, [.ref v, .int 0, h, z])) → g.2 v = some (.inl (2, M0, .inl f)) → M0 ≤ Ml
theorem STO.ext {g : RO} {w w' : Hw} {s : Nat} (h : STO g w s) (k : ext g w w') : STO g w' s := by
  obtain ⟨v, M, f, h1, z, a, b, c, d, e⟩ := h
  exact ⟨v, M, f, h1, z, a, k.2 _ _ a b, c, k.2 _ _ c d, e⟩
set_option maxHeartbeats 4000000 in
theorem lJ5_append_cf1ce_24 {k n : Nat} {b d N s M : Nat} {c : Int32} (hS : SG g) (hs : STO g w s) (hM : ∀ v M0 f h z, g.2 s = some (.inr (0, [.ref v, .int 0, h, z])) → g.2 v = some (.inl (2, M0, .inl f)) → M0 = M) (hT : TS g w0 b d N c w) (hN : N ≤ 1000) (hsN : c.toInt + M ≤ (N : Int)) (hk : k ≤ 1) (hn : n ≤ 170) (hQ : ∀ w', TS g w0 b d N (c + Int32.ofNat M) w' → Q (.inl (some (.ref b))) w') : WP (MJ5_append_cf1ce g) Q (24, [some (.ref b), some (.ref s), some (.int (Int32.ofNat M))], [], w, k, n) := by
  obtain ⟨ml, f, hb, hd, hf, hc0, hc1, rb, rdd, n1, n2⟩ := hT.opn g
  obtain ⟨v, M', fs, h1, z, s1, s2, s3, s4, s5, s6⟩ := hs
  obtain rfl := hM _ _ _ _ _ s1 s3
  have rs := rd_r s1 s2
  have rv := rd_r s3 s4
  have eM := ofN (N := M') (by omega)
  have nM : (Int32.ofNat M').toNatClampNeg = M' := by
    show (Int32.ofNat M').toInt.toNat = M'
    omega
  have nc : c.toNatClampNeg = c.toInt.toNat := rfl
  have c0 : (c < 0) = False := eq_false (i32_of_nlt (by have z0 : (0 : Int32).toInt = 0 := rfl; omega))
  have M0 : (Int32.ofNat M' < 0) = False := eq_false (i32_of_nlt (by have z0 : (0 : Int32).toInt = 0 := rfl; omega))
  have zn : (0 : Int32).toNatClampNeg = 0 := rfl
  have z00 : ((0 : Int32) < 0) = False := eq_false (by decide)
  have es : (c + Int32.ofNat M').toInt = c.toInt + M' := by
    rw [i32_add (by omega) (by omega), eM]
  have nb : v ≠ b := fun e => by
    rw [e, hb] at s4
    cases s4
  have nd : v ≠ d := fun e => by
    rw [e, hd] at s4
    cases s4
  simp only [eJ5_append_cf1ce_24, eJ5_append_cf1ce_24N, eJ5_append_cf1ce_25, eJ5_append_cf1ce_25N, eJ5_append_cf1ce_26, eJ5_append_cf1ce_29, eJ5_append_cf1ce_29N, eJ5_append_cf1ce_30R, eJ5_append_cf1ce_30N, eJ5_append_cf1ce_33, eJ5_append_cf1ce_33N, eJ5_append_cf1ce_34, eJ5_append_cf1ce_34R, eJ5_append_cf1ce_35, eJ5_append_cf1ce_38, eJ5_append_cf1ce_43, eJ5_append_cf1ce_43N, eJ5_append_cf1ce_44, eJ5_append_cf1ce_44N, eJ5_putStringAt_47b60_0, eJ5_putStringAt_47b60_0N, eJ5_putStringAt_47b60_1, eJ5_putStringAt_47b60_1N, eJ5_putStringAt_47b60_2R, eJ5_putStringAt_47b60_2N, eJ5_putStringAt_47b60_5, eJ5_putStringAt_47b60_5N, eJ5_putStringAt_47b60_6, eJ5_putStringAt_47b60_6N, eJ5_putStringAt_47b60_7, eJ5_putStringAt_47b60_10, eJ5_putStringAt_47b60_11, eJ5_putStringAt_47b60_11N, eJ5_putStringAt_47b60_12, eJ5_putStringAt_47b60_15R, eJ5_putStringAt_47b60_15N, eJ5_putStringAt_47b60_18, eJ5_inflateIfNeededFor_a7421_0, eJ5_inflateIfNeededFor_a7421_3, eJ5_inflateIfNeededFor_a7421_6, eJ5_inflateIfNeededFor_a7421_6N, eJ5_inflateIfNeededFor_a7421_7, eJ5_inflateIfNeededFor_a7421_10, eJ5_inflateIfNeededFor_a7421_10N, eJ5_inflateIfNeededFor_a7421_11, eJ5_inflateIfNeededFor_a7421_14, eJ5_inflateIfNeededFor_a7421_17, eJ5_inflateIfNeededFor_a7421_17N, eJ5_inflateIfNeededFor_a7421_21, eJ0_getBytes_840e7_0, eJ0_getBytes_840e7_0N, eJ0_getBytes_840e7_1, eJ0_getBytes_840e7_4, eJ0_getBytes_840e7_8, eJ0_getBytes_840e7_8N, eJ0_getBytes_840e7_9, eJ0_getBytes_840e7_12, eJ0_getBytes_840e7_13, eJ0_getBytes_840e7_13N, eJ0_getBytes_840e7_14, eJ0_getBytes_840e7_17, eJ0_getBytes_840e7_17N, eJ0_getBytes_840e7_18, eJ0_getBytes_840e7_21, eJ0_getBytes_840e7_22O, eJ0_getBytes_840e7_22B, eJ0_getBytes_840e7_25, eJ0_getBytes_840e7_28, eJ0_getBytes_840e7_28N, eJ0_getBytes_840e7_29, eJ0_getBytes_840e7_32, eJ0_getBytes_840e7_33, eJ0_getBytes_840e7_33N, eJ0_getBytes_840e7_34, eJ0_getBytes_840e7_35, eJ0_getBytes_840e7_35N, eJ0_getBytes_840e7_36, eJ0_getBytes_840e7_39, eJ0_coder_7d493_0, eJ0_coder_7d493_3, eJ0_coder_7d493_6, eJ0_coder_7d493_6N, eJ0_coder_7d493_7, eJ0_coder_7d493_10, eJ0_coder_7d493_13, eJ0_coder_7d493_14, ite_le, n45, n54, true_or, or_true, false_or, or_false, false_and, and_false, kx_l, kx_r, go_s, gl_s, gi_s, gb_s2, gb_s3, gq_s, wt_nil, wt_int, wt_long, wt_ref, wt_null, nl_int, nl_long, nl_ref, nl_null, nl_none, rf_n, rf_s, rf_st, tl_s, tl_n, g0, gS, ex1, nb_b, nb_0, nb_1, nf_i, nf_l, nf_ra, nf_ro, nf_na, nf_no, nf_b0, nf_z0, t45_4, t45_5, true_and, and_true, List.set_cons_zero, List.set_cons_succ, List.length_cons, List.length_nil, rd_s, upw_s, ne_eq, not_false_eq_true, Nat.zero_add, Nat.add_zero, if_true, if_false, eq_self, hS.1, zz1, rb, hb, rdd, hd, rs, rv, n1, n2, nb, nd, upw_n, rd_n, upw2, exal, al26, shl0, c0, M0, zn, z00, nM, nc, eJ0_getBytes_840e7_22B rv hd]
  repeat' first | with_reducible refine And.intro ?_ ?_ | omega
  all_goals first
    | rfl
    | exact fun j hj => s5 j (by omega)
    | exact hQ _ (hT.fin (bOK_cpy (N0 := M') s5 hf (by omega)) (by omega) (by omega))
set_option maxHeartbeats 4000000 in
theorem sJ5_append_cf1ce {b d N s Ml : Nat} {c : Int32} (hS : SG g) (hT : TS g w0 b d N c w) (hN : N ≤ 170) (hc : c.toInt ≤ 63) (hs : STO g w0 s) (hB : STB g s Ml) (hQ : ∀ (d' N' : Nat) (c' : Int32) (w' : Hw), N' ≤ 170 → c.toInt ≤ c'.toInt → c'.toInt ≤ c.toInt + (Ml : Int) → TS g w0 b d' N' c' w' → Q (.inl (some (.ref b))) w') : WP (MJ5_append_cf1ce g) Q (0, [some (.ref b), some (.ref s), none], [], w, 0, 0) := by
  obtain ⟨ml, f, hb, hd, hf, hc0, hc1, rb, rdd, n1, n2⟩ := hT.opn g
  have hs1 := hs.ext hT.1
  obtain ⟨v, M, fs, h1, z, s1, s2, s3, s4, s5, s6⟩ := id hs1
  have rs := rd_r s1 s2
  have rv := rd_r s3 s4
  have eM := ofN (N := M) (by omega)
  have hM : ∀ v M0 f h z, g.2 s = some (.inr (0, [.ref v, .int 0, h, z])) → g.2 v = some (.inl (2, M0, .inl f)) → M0 = M := fun v' M0 f' h' z' q1 q2 => by
    rw [s1] at q1
    cases q1
    rw [s3] at q2
    cases q2
    rfl
  have hBM := hB _ _ _ _ _ s1 s3
  obtain ⟨m, hm⟩ : ∃ m, c + Int32.ofNat M = m := ⟨_, rfl⟩
  have e1 : m.toInt = c.toInt + M := by
    rw [← hm, i32_add (by omega) (by omega), eM]
  obtain ⟨eK, eS⟩ := kE (m := m) hb hd (by omega)
  have hk : kfE [.ref b, .int m] w ≤ 1 := by
    rw [eK]
    split <;> omega
  have hsE : sfE [.ref b, .int m] w ≤ 170 := by
    split at eS <;> omega
  simp only [eJ5_append_cf1ce_0, eJ5_append_cf1ce_0N, eJ5_append_cf1ce_1R, eJ5_append_cf1ce_1N, eJ5_append_cf1ce_4, eJ5_append_cf1ce_4N, eJ5_append_cf1ce_8, eJ5_append_cf1ce_8N, eJ5_append_cf1ce_9, eJ5_append_cf1ce_9N, eJ5_append_cf1ce_10, eJ5_append_cf1ce_13, eJ5_append_cf1ce_14, eJ5_append_cf1ce_14N, eJ5_append_cf1ce_15, eJ5_append_cf1ce_15N, eJ5_append_cf1ce_16, eJ5_append_cf1ce_19, eJ0_length_8abf5_0, eJ0_length_8abf5_0N, eJ0_length_8abf5_1, eJ0_length_8abf5_4, eJ0_length_8abf5_5, eJ0_length_8abf5_5N, eJ0_length_8abf5_6, eJ0_length_8abf5_9, eJ0_coder_7d493_0, eJ0_coder_7d493_3, eJ0_coder_7d493_6, eJ0_coder_7d493_6N, eJ0_coder_7d493_7, eJ0_coder_7d493_10, eJ0_coder_7d493_13, eJ0_coder_7d493_14, ite_le, n45, n54, true_or, or_true, false_or, or_false, false_and, and_false, kx_l, kx_r, go_s, gl_s, gi_s, gb_s2, gb_s3, gq_s, wt_nil, wt_int, wt_long, wt_ref, wt_null, nl_int, nl_long, nl_ref, nl_null, nl_none, rf_n, rf_s, rf_st, tl_s, tl_n, g0, gS, ex1, nb_b, nb_0, nb_1, nf_i, nf_l, nf_ra, nf_ro, nf_na, nf_no, nf_b0, nf_z0, t45_4, t45_5, true_and, and_true, List.set_cons_zero, List.set_cons_succ, List.length_cons, List.length_nil, rd_s, upw_s, ne_eq, not_false_eq_true, Nat.zero_add, Nat.add_zero, if_true, if_false, eq_self, hS.1, zz1, rb, hb, rs, rv, exal, al26, shr0, hm, hk, hsE]
  repeat' first | with_reducible refine And.intro ?_ ?_ | omega
  all_goals try rfl
  refine sJ5_ensureCapacityInternal_d00df hS hT (by omega) (by omega) (by omega) (fun h => ⟨by rw [eK, if_pos h]; exact Nat.le_refl _, by rw [eS, if_pos h]; exact Int.le_refl _⟩) (fun h => ?_) (fun d' N' w' h1 h2 hT' => ?_)
  · simp only [kx_l]
    exact lJ5_append_cf1ce_24 hS hs1 hM hT (by omega) (by omega) (by omega) (by omega) (fun w' z => hQ _ _ _ _ hN (by rw [hm]; omega) (by rw [hm]; omega) z)
  · simp only [kx_l]
    exact lJ5_append_cf1ce_24 hS (hs.ext hT'.1) hM hT' (by omega) (by omega) (by omega) (by omega) (fun w' z => hQ _ _ _ _ (by omega) (by rw [hm]; omega) (by rw [hm]; omega) z)
set_option maxHeartbeats 4000000 in
theorem sJ4_append_15ec4 {b d N s Ml : Nat} {c : Int32} (hS : SG g) (hT : TS g w0 b d N c w) (hN : N ≤ 170) (hc : c.toInt ≤ 63) (hs : STO g w0 s) (hB : STB g s Ml) (hQ : ∀ (d' N' : Nat) (c' : Int32) (w' : Hw), N' ≤ 170 → c.toInt ≤ c'.toInt → c'.toInt ≤ c.toInt + (Ml : Int) → TS g w0 b d' N' c' w' → Q (.inl (some (.ref b))) w') : WP (MJ4_append_15ec4 g) Q (0, [some (.ref b), some (.ref s)], [], w, 0, 0) := by
  obtain ⟨ml, f, hb, hd, hf, hc0, hc1, rb, rdd, n1, n2⟩ := hT.opn g
  simp only [eJ4_append_15ec4_0, eJ4_append_15ec4_0N, eJ4_append_15ec4_1, eJ4_append_15ec4_1N, eJ4_append_15ec4_2R, eJ4_append_15ec4_2N, ite_le, n45, n54, true_or, or_true, false_or, or_false, false_and, and_false, kx_l, kx_r, go_s, gl_s, gi_s, gb_s2, gb_s3, gq_s, wt_nil, wt_int, wt_long, wt_ref, wt_null, nl_int, nl_long, nl_ref, nl_null, nl_none, rf_n, rf_s, rf_st, tl_s, tl_n, g0, gS, ex1, nb_b, nb_0, nb_1, nf_i, nf_l, nf_ra, nf_ro, nf_na, nf_no, nf_b0, nf_z0, t45_4, t45_5, true_and, and_true, List.set_cons_zero, List.set_cons_succ, List.length_cons, List.length_nil, rd_s, upw_s, ne_eq, not_false_eq_true, Nat.zero_add, Nat.add_zero, if_true, if_false, eq_self, rb]
  repeat' first | with_reducible refine And.intro ?_ ?_ | omega
  refine sJ5_append_cf1ce hS hT hN hc hs hB (fun d' N' c' w' h1 h2 h3 z => ?_)
  simp only [eJ4_append_15ec4_5, eJ4_append_15ec4_5R, eJ4_append_15ec4_5N, eJ4_append_15ec4_6, eJ4_append_15ec4_6N, eJ4_append_15ec4_7, eJ4_append_15ec4_7N, ite_le, n45, n54, true_or, or_true, false_or, or_false, false_and, and_false, kx_l, kx_r, go_s, gl_s, gi_s, gb_s2, gb_s3, gq_s, wt_nil, wt_int, wt_long, wt_ref, wt_null, nl_int, nl_long, nl_ref, nl_null, nl_none, rf_n, rf_s, rf_st, tl_s, tl_n, g0, gS, ex1, nb_b, nb_0, nb_1, nf_i, nf_l, nf_ra, nf_ro, nf_na, nf_no, nf_b0, nf_z0, t45_4, t45_5, true_and, and_true, List.set_cons_zero, List.set_cons_succ, List.length_cons, List.length_nil, rd_s, upw_s, ne_eq, not_false_eq_true, Nat.zero_add, Nat.add_zero, if_true, if_false, eq_self]
  repeat' first | with_reducible refine And.intro ?_ ?_ | omega
  exact hQ _ _ _ _ h1 h2 h3 z
end
end
/-! 61.list0.lean.txt -/
section
section
variable {g : RO} {Q : Ot → Hw → Prop} {w0 w : Hw}
/-- a row of the model: four longs -/
def isRow (w : Hw) (b : Nat) : Prop := ∃ f : Nat → Int64, w b = some (.inl (0, 4, .inr (.inl f)))
theorem isRow.ext {g : RO} {w w' : Hw} {b : Nat} (h : isRow w b) (k : ext g w w') : isRow w' b := h.imp fun _ z => k.1 b _ z
theorem isRow_up {w : Hw} {a b : Nat} {o1 o2 : Ob} (h : isRow w b) (ha : w a = some o1) (ho : ∀ z, o1 ≠ .inl (0, 4, z)) : isRow (upw w a o2) b := by
  obtain ⟨f, h⟩ := h
  refine ⟨f, ?_⟩
  rw [upw_n]
  · exact h
  · rintro rfl
    rw [ha] at h
    cases h
    exact ho _ rfl
theorem gl_Row {g : RO} {w : Hw} {b : Nat} {K : Nat → (Nat → Int64) → Prop} (h : isRow w b) (k : ∀ f, K 4 f) : gl (rd g w b) 0 K := by
  obtain ⟨f, h⟩ := h
  rw [rd_e h, gl_s]
  exact k f
theorem gl_Roww {w : Hw} {b : Nat} {K : Nat → (Nat → Int64) → Prop} (h : isRow w b) (k : ∀ f, K 4 f) : gl (w b) 0 K := by
  obtain ⟨f, h⟩ := h
  rw [h, gl_s]
  exact k f
/-- the empty row of an empty list, the class object -/
def EG (g : RO) (w : Hw) : Prop := (∃ e : Nat, g.1 0 = .ref e ∧ g.2 e = some (.inl (5, 0, qc fun _ => none)) ∧ w e = none) ∧ ∃ mi : Nat, g.1 10 = .ref mi
theorem EG.ext {g : RO} {w w' : Hw} (h : EG g w) (k : ext g w w') : EG g w' := ⟨h.1.imp fun e z => ⟨z.1, z.2.1, k.2 e _ z.2.1 z.2.2⟩, h.2⟩
/-- a list: its row of references has cap places, the first n are taken -/
def LL (g : RO) (w : Hw) (L D cap : Nat) (n : Int32) (h : Nat → Option Nat) : Prop := (∃ mc : Int32, w L = some (.inr (3, [.int mc, .ref D, .int n]))) ∧ ((w D = some (.inl (5, cap, qc h)) ∧ (cap = 10 ∨ cap = 15)) ∨ (cap = 0 ∧ g.1 0 = .ref D ∧ w D = none ∧ g.2 D = some (.inl (5, 0, qc h)))) ∧ 0 ≤ n.toInt ∧ n.toInt ≤ (cap : Int)
theorem LL.opn {g : RO} {w : Hw} {L D cap : Nat} {n : Int32} {h : Nat → Option Nat} (k : LL g w L D cap n h) : ∃ mc : Int32, w L = some (.inr (3, [.int mc, .ref D, .int n])) ∧ rd g w L = some (.inr (3, [.int mc, .ref D, .int n])) ∧ rd g w D = some (.inl (5, cap, qc h)) ∧ 0 ≤ n.toInt ∧ n.toInt ≤ (cap : Int) ∧ L ≠ D ∧ D ≠ L := by
  obtain ⟨⟨mc, h1⟩, h2, h3, h4⟩ := k
  have r : rd g w D = some (.inl (5, cap, qc h)) := by
    rcases h2 with ⟨h2, -⟩ | ⟨rfl, -, h5, h6⟩
    · exact rd_e h2
    · exact (by unfold rd; rw [h5]; exact h6)
  have ne : L ≠ D := fun e => by
    subst e
    rw [rd_e h1] at r
    cases r
  exact ⟨mc, h1, rd_e h1, r, h3, h4, ne, ne.symm⟩
theorem i32_f {a b : Int32} (h : b.toInt ≤ a.toInt) : (a < b) = False := eq_false (i32_of_nlt h)
theorem i32_t {a b : Int32} (h : a.toInt < b.toInt) : (a < b) = True := eq_true (i32_of_lt h)
theorem i32_z {a : Int32} (h : 0 ≤ a.toInt) : (a < 0) = False := i32_f (by have e : (0 : Int32).toInt = 0 := rfl; omega)
theorem al56 : ((5 : Nat) < 6) = True := eq_true (by decide)
theorem exal2 {a : Nat} {b : vp_A} {P : vp_A → Prop} : (∃ (t : Nat) (z : vp_A), (some (.inl (a, b)) : Option Ob) = some (.inl (t, z)) ∧ t < 6 ∧ P z) = (a < 6 ∧ P b) := propext ⟨fun ⟨t, z, e, h, k⟩ => by cases e; exact ⟨h, k⟩, fun h => ⟨a, b, rfl, h⟩⟩
theorem vpiM {a : Int32} {N : Nat} (h0 : (0 : Int) ≤ a.toInt) (h1 : a.toInt < (N : Int)) : vp_in a N := by
  rintro (h | h)
  · have := i32_lt h
    have e : (0 : Int32).toInt = 0 := rfl
    omega
  · have e1 : a.toNatClampNeg = a.toInt.toNat := rfl
    omega
set_option maxHeartbeats 4000000 in
theorem sJx4a65c_size {L D cap : Nat} {n : Int32} {h : Nat → Option Nat} (hl : LL g w L D cap n h) (hQ : Q (.inl (some (.int n))) w) : WP (MJx4a65c_size_8abf5 g) Q (0, [some (.ref L)], [], w, 0, 0) := by
  obtain ⟨mc, hL, rL, rD, hn0, hn1, n1, n2⟩ := hl.opn
  simp only [eJx4a65c_size_8abf5_0, eJx4a65c_size_8abf5_0N, eJx4a65c_size_8abf5_1, eJx4a65c_size_8abf5_4, ite_le, n45, n54, true_or, or_true, false_or, or_false, false_and, and_false, kx_l, kx_r, go_s, gl_s, gi_s, gb_s2, gb_s3, gq_s, wt_nil, wt_int, wt_long, wt_ref, wt_null, nl_int, nl_long, nl_ref, nl_null, nl_none, rf_n, rf_s, rf_st, tl_s, tl_n, g0, gS, ex1, nb_b, nb_0, nb_1, nf_i, nf_l, nf_ra, nf_ro, nf_na, nf_no, nf_b0, nf_z0, t45_4, t45_5, true_and, and_true, List.set_cons_zero, List.set_cons_succ, List.length_cons, List.length_nil, rd_s, upw_s, ne_eq, not_false_eq_true, Nat.zero_add, Nat.add_zero, if_true, if_false, rL]
  repeat' first | with_reducible refine And.intro ?_ ?_ | omega
  all_goals try exact hQ
set_option maxHeartbeats 4000000 in
theorem sJx4a65c_get {L D cap : Nat} {n i : Int32} {h : Nat → Option Nat} (hl : LL g w L D cap n h) (k0 : 0 ≤ i.toInt) (k1 : i.toInt < n.toInt) (hN : h i.toNatClampNeg = none → Q (.inl (some .null)) w) (hR : ∀ b, h i.toNatClampNeg = some b → Q (.inl (some (.ref b))) w) : WP (MJx4a65c_get_915e3 g) Q (0, [some (.ref L), some (.int i)], [], w, 0, 0) := by
  obtain ⟨mc, hL, rL, rD, hn0, hn1, n1, n2⟩ := hl.opn
  have iv : vp_in i cap := vpiM k0 (by omega)
  simp only [eJx4a65c_get_915e3_0, eJx4a65c_get_915e3_5, eJx4a65c_get_915e3_8, eJx4a65c_get_915e3_14, eJx4a65c_get_915e3_14N, eJx4a65c_elementData_915e3_0, eJx4a65c_elementData_915e3_4, eJx4a65c_elementData_915e3_6, eJx4a65c_elementData_915e3_6N, eJ15_checkIndex_7cf53_0, eJ15_checkIndex_7cf53_3N, eJ15_checkIndex_7cf53_6, eJ3_checkIndex_8e157_0, eJ3_checkIndex_8e157_4, eJ3_checkIndex_8e157_9N, eJ3_checkIndex_8e157_10, eJ3_checkIndex_8e157_16, n54, or_true, kx_l, kx_r, go_s, gq_s, wt_nil, rf_st, tl_s, g0, gS, ex1, true_and, Nat.add_zero, if_true, if_false, rL, rD, i32_z k0, i32_t k1]
  with_reducible refine And.intro ?_ ?_
  omega
  with_reducible refine And.intro ?_ ?_
  omega
  with_reducible refine And.intro ?_ ?_
  omega
  with_reducible refine And.intro ?_ ?_
  omega
  with_reducible refine And.intro ?_ ?_
  omega
  with_reducible refine And.intro ?_ ?_
  omega
  with_reducible refine And.intro ?_ ?_
  omega
  with_reducible refine And.intro ?_ ?_
  omega
  with_reducible refine And.intro ?_ ?_
  omega
  with_reducible refine And.intro ?_ ?_
  omega
  with_reducible refine And.intro ?_ ?_
  omega
  with_reducible refine And.intro ?_ ?_
  omega
  with_reducible refine And.intro ?_ ?_
  omega
  with_reducible refine And.intro ?_ ?_
  with_reducible assumption
  with_reducible refine And.intro ?_ ?_
  with_reducible intro _
  with_reducible refine And.intro ?_ ?_
  omega
  with_reducible refine And.intro ?_ ?_
  omega
  with_reducible refine And.intro ?_ ?_
  omega
  with_reducible refine And.intro ?_ ?_
  omega
  with_reducible exact hN (by assumption)
  with_reducible intro _
  with_reducible intro _
  with_reducible refine And.intro ?_ ?_
  omega
  with_reducible refine And.intro ?_ ?_
  omega
  with_reducible refine And.intro ?_ ?_
  omega
  with_reducible refine And.intro ?_ ?_
  omega
  with_reducible exact hR _ (by assumption)
set_option maxHeartbeats 4000000 in
theorem sJx4a65c_setN {L D cap : Nat} {n i : Int32} {h : Nat → Option Nat} (hl : LL g w L D cap n h) (hD : w D = some (.inl (5, cap, qc h))) (k0 : 0 ≤ i.toInt) (k1 : i.toInt < n.toInt) (hN : h i.toNatClampNeg = none → Q (.inl (some .null)) (upw w D (.inl (5, cap, qc (va_up h i.toNatClampNeg none))))) (hR : ∀ b0, h i.toNatClampNeg = some b0 → Q (.inl (some (.ref b0))) (upw w D (.inl (5, cap, qc (va_up h i.toNatClampNeg none))))) : WP (MJx4a65c_set_bcc79 g) Q (0, [some (.ref L), some (.int i), some .null, none], [], w, 0, 0) := by
  obtain ⟨mc, hL, rL, rD, hn0, hn1, n1, n2⟩ := hl.opn
  have iv : vp_in i cap := vpiM k0 (by omega)
  simp only [eJx4a65c_set_bcc79_0, eJx4a65c_set_bcc79_5, eJx4a65c_set_bcc79_8, eJx4a65c_set_bcc79_14, eJx4a65c_set_bcc79_14N, eJx4a65c_set_bcc79_15, eJx4a65c_set_bcc79_19, eJx4a65c_set_bcc79_20N, eJx4a65c_set_bcc79_21N, eJx4a65c_set_bcc79_22, eJx4a65c_set_bcc79_22N, eJx4a65c_set_bcc79_23, eJx4a65c_set_bcc79_23N, eJx4a65c_elementData_915e3_0, eJx4a65c_elementData_915e3_4, eJx4a65c_elementData_915e3_6, eJx4a65c_elementData_915e3_6N, eJ15_checkIndex_7cf53_0, eJ15_checkIndex_7cf53_3N, eJ15_checkIndex_7cf53_6, eJ3_checkIndex_8e157_0, eJ3_checkIndex_8e157_4, eJ3_checkIndex_8e157_9N, eJ3_checkIndex_8e157_10, eJ3_checkIndex_8e157_16, n54, or_true, kx_l, kx_r, go_s, gq_s, wt_nil, nl_null, rf_st, tl_s, g0, gS, ex1, true_and, Nat.add_zero, if_true, if_false, rL, rD, hD, i32_z k0, i32_t k1]
  with_reducible refine And.intro ?_ ?_
  omega
  with_reducible refine And.intro ?_ ?_
  omega
  with_reducible refine And.intro ?_ ?_
  omega
  with_reducible refine And.intro ?_ ?_
  omega
  with_reducible refine And.intro ?_ ?_
  omega
  with_reducible refine And.intro ?_ ?_
  omega
  with_reducible refine And.intro ?_ ?_
  omega
  with_reducible refine And.intro ?_ ?_
  omega
  with_reducible refine And.intro ?_ ?_
  omega
  with_reducible refine And.intro ?_ ?_
  omega
  with_reducible refine And.intro ?_ ?_
  omega
  with_reducible refine And.intro ?_ ?_
  omega
  with_reducible refine And.intro ?_ ?_
  omega
  with_reducible refine And.intro ?_ ?_
  with_reducible assumption
  with_reducible refine And.intro ?_ ?_
  with_reducible intro _
  with_reducible refine And.intro ?_ ?_
  omega
  with_reducible refine And.intro ?_ ?_
  omega
  with_reducible refine And.intro ?_ ?_
  with_reducible assumption
  with_reducible refine And.intro ?_ ?_
  omega
  with_reducible refine And.intro ?_ ?_
  omega
  with_reducible exact hN (by assumption)
  with_reducible intro _
  with_reducible intro _
  with_reducible refine And.intro ?_ ?_
  omega
  with_reducible refine And.intro ?_ ?_
  omega
  with_reducible refine And.intro ?_ ?_
  with_reducible assumption
  with_reducible refine And.intro ?_ ?_
  omega
  with_reducible refine And.intro ?_ ?_
  omega
  with_reducible exact hR _ (by assumption)
set_option maxHeartbeats 4000000 in
theorem sJx4a65c_setR {L D cap b : Nat} {n i : Int32} {h : Nat → Option Nat} (hb : isRow w b) (hl : LL g w L D cap n h) (hD : w D = some (.inl (5, cap, qc h))) (k0 : 0 ≤ i.toInt) (k1 : i.toInt < n.toInt) (hN : h i.toNatClampNeg = none → Q (.inl (some .null)) (upw w D (.inl (5, cap, qc (va_up h i.toNatClampNeg (some b)))))) (hR : ∀ b0, h i.toNatClampNeg = some b0 → Q (.inl (some (.ref b0))) (upw w D (.inl (5, cap, qc (va_up h i.toNatClampNeg (some b)))))) : WP (MJx4a65c_set_bcc79 g) Q (0, [some (.ref L), some (.int i), some (.ref b), none], [], w, 0, 0) := by
  obtain ⟨mc, hL, rL, rD, hn0, hn1, n1, n2⟩ := hl.opn
  have iv : vp_in i cap := vpiM k0 (by omega)
  simp only [eJx4a65c_set_bcc79_0, eJx4a65c_set_bcc79_5, eJx4a65c_set_bcc79_8, eJx4a65c_set_bcc79_14, eJx4a65c_set_bcc79_14N, eJx4a65c_set_bcc79_15, eJx4a65c_set_bcc79_19, eJx4a65c_set_bcc79_20, eJx4a65c_set_bcc79_21R, eJx4a65c_set_bcc79_22, eJx4a65c_set_bcc79_22N, eJx4a65c_set_bcc79_23, eJx4a65c_set_bcc79_23N, eJx4a65c_elementData_915e3_0, eJx4a65c_elementData_915e3_4, eJx4a65c_elementData_915e3_6, eJx4a65c_elementData_915e3_6N, eJ15_checkIndex_7cf53_0, eJ15_checkIndex_7cf53_3N, eJ15_checkIndex_7cf53_6, eJ3_checkIndex_8e157_0, eJ3_checkIndex_8e157_4, eJ3_checkIndex_8e157_9N, eJ3_checkIndex_8e157_10, eJ3_checkIndex_8e157_16, n54, or_true, false_or, false_and, kx_l, kx_r, go_s, gq_s, wt_nil, nl_ref, rf_st, tl_s, g0, gS, ex1, true_and, Nat.add_zero, if_true, if_false, rL, rD, hD, i32_z k0, i32_t k1]
  with_reducible refine And.intro ?_ ?_
  omega
  with_reducible refine And.intro ?_ ?_
  omega
  with_reducible refine And.intro ?_ ?_
  omega
  with_reducible refine And.intro ?_ ?_
  omega
  with_reducible refine And.intro ?_ ?_
  omega
  with_reducible refine And.intro ?_ ?_
  omega
  with_reducible refine And.intro ?_ ?_
  omega
  with_reducible refine And.intro ?_ ?_
  omega
  with_reducible refine And.intro ?_ ?_
  omega
  with_reducible refine And.intro ?_ ?_
  omega
  with_reducible refine And.intro ?_ ?_
  omega
  with_reducible refine And.intro ?_ ?_
  omega
  with_reducible refine And.intro ?_ ?_
  omega
  with_reducible refine And.intro ?_ ?_
  with_reducible assumption
  with_reducible refine And.intro ?_ ?_
  with_reducible intro _
  with_reducible refine And.intro ?_ ?_
  omega
  with_reducible refine And.intro ?_ ?_
  omega
  with_reducible refine And.intro ?_ ?_
  with_reducible assumption
  with_reducible refine And.intro ?_ ?_
  with_reducible refine gl_Roww (by assumption) ?_
  with_reducible intro _
  simp only []
  with_reducible refine And.intro ?_ ?_
  omega
  with_reducible refine And.intro ?_ ?_
  omega
  with_reducible exact hN (by assumption)
  with_reducible intro _
  with_reducible intro _
  with_reducible refine And.intro ?_ ?_
  omega
  with_reducible refine And.intro ?_ ?_
  omega
  with_reducible refine And.intro ?_ ?_
  with_reducible assumption
  with_reducible refine And.intro ?_ ?_
  with_reducible refine gl_Roww (by assumption) ?_
  with_reducible intro _
  simp only []
  with_reducible refine And.intro ?_ ?_
  omega
  with_reducible refine And.intro ?_ ?_
  omega
  with_reducible exact hR _ (by assumption)
set_option maxHeartbeats 4000000 in
theorem sJx4a65c_init {L : Nat} (hE : EG g w) (hL : w L = some (.inr (3, [.int 0, .null, .int 0]))) (hQ : ∀ D w', (∀ (a : Nat) (o : Ob), w a = some o → a ≠ L → w' a = some o) → (∀ (a : Nat) (o : Ob), g.2 a = some o → w a = none → w' a = none) → LL g w' L D 0 0 (fun _ => none) → Q (.inl none) w') : WP (MJx4a65c_init_da8c8 g) Q (0, [some (.ref L)], [], w, 0, 0) := by
  obtain ⟨⟨e, e1, e2, e3⟩, -⟩ := hE
  have hne : e ≠ L := fun z => by
    rw [z, hL] at e3
    cases e3
  have rL : rd g w L = some (.inr (3, [.int 0, .null, .int 0])) := rd_e hL
  simp only [eJx4a65c_init_da8c8_0, eJx4a65c_init_da8c8_0N, eJx4a65c_init_da8c8_1, eJx4a65c_init_da8c8_4, eJx4a65c_init_da8c8_4N, eJx4a65c_init_da8c8_5, eJx4a65c_init_da8c8_11, eJxc12de_init_da8c8_0, eJxc12de_init_da8c8_0N, eJxc12de_init_da8c8_1, eJxc12de_init_da8c8_4, eJxc12de_init_da8c8_4N, eJxc12de_init_da8c8_5, eJxc12de_init_da8c8_9, eJxa1e45_init_da8c8_0, eJxa1e45_init_da8c8_0N, eJxa1e45_init_da8c8_1, eJxa1e45_init_da8c8_4, ite_le, n45, n54, true_or, or_true, false_or, or_false, false_and, and_false, kx_l, kx_r, go_s, gl_s, gi_s, gb_s2, gb_s3, gq_s, wt_nil, wt_int, wt_long, wt_ref, wt_null, nl_int, nl_long, nl_ref, nl_null, nl_none, rf_n, rf_s, rf_st, tl_s, tl_n, g0, gS, ex1, nb_b, nb_0, nb_1, nf_i, nf_l, nf_ra, nf_ro, nf_na, nf_no, nf_b0, nf_z0, t45_4, t45_5, true_and, and_true, List.set_cons_zero, List.set_cons_succ, List.length_cons, List.length_nil, rd_s, upw_s, ne_eq, not_false_eq_true, Nat.zero_add, Nat.add_zero, if_true, if_false, hL, rL, e1, tyJx4a65c, nf_ra, upw2]
  repeat' first | with_reducible refine And.intro ?_ ?_ | omega
  all_goals try exact trivial
  refine hQ e _ (fun a o h1 h2 => by rw [upw_n h2]; exact h1) (fun a o h1 h2 => ?_) ⟨⟨0, upw_s _ _ _⟩, Or.inr ⟨rfl, e1, by rw [upw_n hne]; exact e3, e2⟩, by decide, by decide⟩
  rw [upw_n]
  · exact h2
  · rintro rfl
    rw [hL] at h2
    cases h2
end
end
/-! 61.list1.lean.txt -/
section
section
variable {g : RO} {Q : Ot → Hw → Prop} {w0 w : Hw}
theorem upw2q {w : Hw} {a : Nat} {o o' : Ob} : upw (upw w a o) a o' = upw w a o' := by
  funext q
  unfold upw
  split <;> rfl
theorem cap0 : (Int32.ofNat 0 : Int32) = 0 := rfl
theorem cap10 : (Int32.ofNat 10 : Int32) = 10 := rfl
theorem cap15 : (Int32.ofNat 15 : Int32) = 15 := rfl
theorem z00 : ((0 : Int32) < 0) = False := eq_false (by decide)
theorem z101 : ((10 : Int32) < 0 + 1) = False := eq_false (by decide)
theorem n100 : ((10 : Int32) < 0) = False := eq_false (by decide)
theorem n150 : ((15 : Int32) < 0) = False := eq_false (by decide)
theorem z010 : ((0 : Int32) < 10) = True := eq_true (by decide)
theorem z015 : ((0 : Int32) < 15) = True := eq_true (by decide)
theorem c1110 : (10 : Int32) + 1 - 10 = 1 := by decide
theorem z15 : ((1 : Int32) < 5) = True := eq_true (by decide)
theorem c105 : (10 : Int32) + 5 = 15 := by decide
theorem zbig : ((2147483639 : Int32) < 15) = False := eq_false (by decide)
theorem z1510 : ((15 : Int32) < 10) = False := eq_false (by decide)
theorem i10n : (10 : Int32).toNatClampNeg = 10 := rfl
theorem i15n : (15 : Int32).toNatClampNeg = 15 := rfl
theorem i0n : (0 : Int32).toNatClampNeg = 0 := rfl
theorem sh10 : (10 : Int32) >>> ((1 : Int32) &&& 31) = 5 := by decide
theorem ac_t {p : Nat} : (ACond.eq = ACond.eq ↔ p = p) = True := eq_true ⟨fun _ => rfl, fun _ => rfl⟩
theorem ac_n {p : Nat} : (ACond.ne = ACond.eq ↔ p = p) = False := eq_false fun h => by have := h.mpr rfl; cases this
theorem acT : (ACond.eq = ACond.eq ↔ True) = True := eq_true ⟨fun _ => trivial, fun _ => rfl⟩
theorem acF : (ACond.ne = ACond.eq ↔ True) = False := eq_false fun h => by have := h.mpr trivial; cases this
theorem i32_eq {a b : Int32} (h : a.toInt = b.toInt) : a = b := Int32.toInt_inj.mp h
set_option maxHeartbeats 4000000 in
theorem sJx4a65c_grow0 {L D : Nat} {mc n : Int32} {h : Nat → Option Nat} (hE : EG g w) (hS : SG g) (hL : w L = some (.inr (3, [.int mc, .ref D, .int n]))) (hD : g.1 0 = .ref D ∧ w D = none ∧ g.2 D = some (.inl (5, 0, qc h))) (hn : n = 0) (hQ : ∀ q, rd g w q = none → Q (.inl (some (.ref q))) (upw (upw w q (.inl (5, 10, qc fun _ => none))) L (.inr (3, [.int mc, .ref q, .int n])))) : WP (MJx4a65c_grow_d5877 g) Q (0, [some (.ref L)], [], w, 0, 0) := by
  subst hn
  obtain ⟨d1, d2, d3⟩ := hD
  have rL : rd g w L = some (.inr (3, [.int mc, .ref D, .int 0])) := rd_e hL
  have rD : rd g w D = some (.inl (5, 0, qc h)) := by unfold rd; rw [d2]; exact d3
  simp only [eJx4a65c_grow_d5877_0, eJx4a65c_grow_d5877_0N, eJx4a65c_grow_d5877_1, eJx4a65c_grow_d5877_1N, eJx4a65c_grow_d5877_2, eJx4a65c_grow_d5877_5, eJx4a65c_grow_d5877_10, eJx4a65c_grow_92f84_0, eJx4a65c_grow_92f84_0N, eJx4a65c_grow_92f84_1, eJx4a65c_grow_92f84_4, eJx4a65c_grow_92f84_5, eJx4a65c_grow_92f84_10, eJx4a65c_grow_92f84_10N, eJx4a65c_grow_92f84_11, eJx4a65c_grow_92f84_14, eJx4a65c_grow_92f84_17, eJx4a65c_grow_92f84_20, eJx4a65c_grow_92f84_30, eJx4a65c_grow_92f84_31, eJx4a65c_grow_92f84_31N, eJx4a65c_grow_92f84_32, eJx4a65c_grow_92f84_32N, eJx4a65c_grow_92f84_33, eJx4a65c_grow_92f84_36, eJx4a65c_grow_92f84_37R, eJx4a65c_grow_92f84_37N, eJx4a65c_grow_92f84_40IR, eJx4a65c_grow_92f84_40RR, eJx4a65c_grow_92f84_41, eJx4a65c_grow_92f84_44, eJx4a65c_grow_92f84_45, eJx4a65c_grow_92f84_45N, eJx4a65c_grow_92f84_46, eJx4a65c_grow_92f84_52, eJx4a65c_grow_92f84_55IR, eJx4a65c_grow_92f84_55RR, eJx4a65c_grow_92f84_56, eJx4a65c_grow_92f84_59, ite_le, n45, n54, true_or, or_true, false_or, or_false, false_and, and_false, kx_l, kx_r, go_s, gl_s, gi_s, gb_s2, gb_s3, gq_s, wt_nil, wt_int, wt_long, wt_ref, wt_null, nl_int, nl_long, nl_ref, nl_null, nl_none, rf_n, rf_s, rf_st, tl_s, tl_n, g0, gS, ex1, nb_b, nb_0, nb_1, nf_i, nf_l, nf_ra, nf_ro, nf_na, nf_no, nf_b0, nf_z0, t45_4, t45_5, true_and, and_true, List.set_cons_zero, List.set_cons_succ, List.length_cons, List.length_nil, rd_s, upw_s, ne_eq, not_false_eq_true, Nat.zero_add, Nat.add_zero, if_true, if_false, hL, rL, rD, d1, exal2, al56, cap0, ac_t, i10n, i0n, z00, z101, n100]
  repeat' first | with_reducible refine And.intro ?_ ?_ | omega
  intro q hq
  have hqL : L ≠ q := fun e => by
    have h2 := rd_none hq
    rw [← e, hL] at h2
    cases h2
  simp only [eJx4a65c_grow_d5877_0, eJx4a65c_grow_d5877_0N, eJx4a65c_grow_d5877_1, eJx4a65c_grow_d5877_1N, eJx4a65c_grow_d5877_2, eJx4a65c_grow_d5877_5, eJx4a65c_grow_d5877_10, eJx4a65c_grow_92f84_0, eJx4a65c_grow_92f84_0N, eJx4a65c_grow_92f84_1, eJx4a65c_grow_92f84_4, eJx4a65c_grow_92f84_5, eJx4a65c_grow_92f84_10, eJx4a65c_grow_92f84_10N, eJx4a65c_grow_92f84_11, eJx4a65c_grow_92f84_14, eJx4a65c_grow_92f84_17, eJx4a65c_grow_92f84_20, eJx4a65c_grow_92f84_30, eJx4a65c_grow_92f84_31, eJx4a65c_grow_92f84_31N, eJx4a65c_grow_92f84_32, eJx4a65c_grow_92f84_32N, eJx4a65c_grow_92f84_33, eJx4a65c_grow_92f84_36, eJx4a65c_grow_92f84_37R, eJx4a65c_grow_92f84_37N, eJx4a65c_grow_92f84_40IR, eJx4a65c_grow_92f84_40RR, eJx4a65c_grow_92f84_41, eJx4a65c_grow_92f84_44, eJx4a65c_grow_92f84_45, eJx4a65c_grow_92f84_45N, eJx4a65c_grow_92f84_46, eJx4a65c_grow_92f84_52, eJx4a65c_grow_92f84_55IR, eJx4a65c_grow_92f84_55RR, eJx4a65c_grow_92f84_56, eJx4a65c_grow_92f84_59, ite_le, n45, n54, true_or, or_true, false_or, or_false, false_and, and_false, kx_l, kx_r, go_s, gl_s, gi_s, gb_s2, gb_s3, gq_s, wt_nil, wt_int, wt_long, wt_ref, wt_null, nl_int, nl_long, nl_ref, nl_null, nl_none, rf_n, rf_s, rf_st, tl_s, tl_n, g0, gS, ex1, nb_b, nb_0, nb_1, nf_i, nf_l, nf_ra, nf_ro, nf_na, nf_no, nf_b0, nf_z0, t45_4, t45_5, true_and, and_true, List.set_cons_zero, List.set_cons_succ, List.length_cons, List.length_nil, rd_s, upw_s, ne_eq, not_false_eq_true, Nat.zero_add, Nat.add_zero, if_true, if_false, hL, rL, hqL, upw_n, tyJx4a65c, nf_ra, rd_n]
  repeat' first | with_reducible refine And.intro ?_ ?_ | omega
  all_goals first | exact trivial | exact hQ q hq
set_option maxHeartbeats 4000000 in
theorem sJx4a65c_grow10 {L D : Nat} {mc n : Int32} {h : Nat → Option Nat} (hE : EG g w) (hS : SG g) (hL : w L = some (.inr (3, [.int mc, .ref D, .int n]))) (hD : w D = some (.inl (5, 10, qc h))) (hh : ∀ i b, h i = some b → isRow w b) (hn : n = 10) (hQ : ∀ q, rd g w q = none → Q (.inl (some (.ref q))) (upw (upw w q (.inl (5, 15, qc (va_cpy h (fun _ => none) 0 0 10)))) L (.inr (3, [.int mc, .ref q, .int n])))) : WP (MJx4a65c_grow_d5877 g) Q (0, [some (.ref L)], [], w, 0, 0) := by
  subst hn
  obtain ⟨⟨e, e1, e2, e3⟩, mi, hmi⟩ := hE
  obtain ⟨hs1, hs2, hs3⟩ := hS
  have rL : rd g w L = some (.inr (3, [.int mc, .ref D, .int 10])) := rd_e hL
  have rD : rd g w D = some (.inl (5, 10, qc h)) := rd_e hD
  simp only [eJx4a65c_grow_d5877_0, eJx4a65c_grow_d5877_0N, eJx4a65c_grow_d5877_1, eJx4a65c_grow_d5877_1N, eJx4a65c_grow_d5877_2, eJx4a65c_grow_d5877_5, eJx4a65c_grow_d5877_10, eJx4a65c_grow_92f84_0, eJx4a65c_grow_92f84_0N, eJx4a65c_grow_92f84_1, eJx4a65c_grow_92f84_4, eJx4a65c_grow_92f84_5, eJx4a65c_grow_92f84_10, eJx4a65c_grow_92f84_10N, eJx4a65c_grow_92f84_11, eJx4a65c_grow_92f84_14, eJx4a65c_grow_92f84_17, eJx4a65c_grow_92f84_20, eJx4a65c_grow_92f84_30, eJx4a65c_grow_92f84_31, eJx4a65c_grow_92f84_31N, eJx4a65c_grow_92f84_32, eJx4a65c_grow_92f84_32N, eJx4a65c_grow_92f84_33, eJx4a65c_grow_92f84_36, eJx4a65c_grow_92f84_37R, eJx4a65c_grow_92f84_37N, eJx4a65c_grow_92f84_40IR, eJx4a65c_grow_92f84_40RR, eJx4a65c_grow_92f84_41, eJx4a65c_grow_92f84_44, eJx4a65c_grow_92f84_45, eJx4a65c_grow_92f84_45N, eJx4a65c_grow_92f84_46, eJx4a65c_grow_92f84_52, eJx4a65c_grow_92f84_55IR, eJx4a65c_grow_92f84_55RR, eJx4a65c_grow_92f84_56, eJx4a65c_grow_92f84_59, eJ8_newLength_cabcc_0, eJ8_newLength_cabcc_6, eJ8_newLength_cabcc_13, eJ8_newLength_cabcc_16, eJ8_newLength_cabcc_19, eJ8_newLength_cabcc_21, eJ8_newLength_cabcc_26, eJ7_copyOf_1904c_0, eJ7_copyOf_1904c_0N, eJ7_copyOf_1904c_1, eJ7_copyOf_1904c_2, eJ7_copyOf_1904c_2N, eJ7_copyOf_1904c_3, eJ7_copyOf_1904c_6RR, eJ7_copyOf_1904c_6NR, eJ7_copyOf_1904c_6RN, eJ7_copyOf_1904c_6NN, eJ7_copyOf_1904c_9, eJ7_copyOf_6403c_0, eJ7_copyOf_6403c_0N, eJ7_copyOf_6403c_1, eJ7_copyOf_6403c_3, eJ7_copyOf_6403c_6, eJ7_copyOf_6403c_10, eJ7_copyOf_6403c_13, eJ7_copyOf_6403c_13N, eJ7_copyOf_6403c_17, eJ7_copyOf_6403c_24, eJ7_copyOf_6403c_24N, eJ7_copyOf_6403c_25, eJ7_copyOf_6403c_25N, eJ7_copyOf_6403c_26, eJ7_copyOf_6403c_27, eJ7_copyOf_6403c_27N, eJ7_copyOf_6403c_28, eJ7_copyOf_6403c_29, eJ7_copyOf_6403c_29N, eJ7_copyOf_6403c_30, eJ7_copyOf_6403c_31, eJ7_copyOf_6403c_35O, eJ7_copyOf_6403c_35B, eJ7_copyOf_6403c_38, eJ7_copyOf_6403c_38N, eJ7_copyOf_6403c_39, ite_le, n45, n54, true_or, or_true, false_or, or_false, false_and, and_false, kx_l, kx_r, go_s, gl_s, gi_s, gb_s2, gb_s3, gq_s, wt_nil, wt_int, wt_long, wt_ref, wt_null, nl_int, nl_long, nl_ref, nl_null, nl_none, rf_n, rf_s, rf_st, tl_s, tl_n, g0, gS, ex1, nb_b, nb_0, nb_1, nf_i, nf_l, nf_ra, nf_ro, nf_na, nf_no, nf_b0, nf_z0, t45_4, t45_5, true_and, and_true, List.set_cons_zero, List.set_cons_succ, List.length_cons, List.length_nil, rd_s, upw_s, ne_eq, not_false_eq_true, Nat.zero_add, Nat.add_zero, if_true, if_false, hL, rL, rD, exal2, al56, cap10, sh10, hs2, hmi, ac_t, ac_n, acT, acF, i15n, i10n, i0n, z010, z015, c1110, z15, c105, zbig, n150, n100, eJ7_copyOf_1904c_3 hD]
  repeat' first | with_reducible refine And.intro ?_ ?_ | omega
  intro q hq
  have hqn := rd_none hq
  have hqL : L ≠ q := fun e => by
    rw [← e, hL] at hqn
    cases hqn
  have hqD : D ≠ q := fun e => by
    rw [← e, hD] at hqn
    cases hqn
  have hD2 : upw w q (.inl (5, 15, qc fun _ => none)) D = some (.inl (5, 10, qc h)) := by rw [upw_n hqD]; exact hD
  simp only [eJx4a65c_grow_d5877_0, eJx4a65c_grow_d5877_0N, eJx4a65c_grow_d5877_1, eJx4a65c_grow_d5877_1N, eJx4a65c_grow_d5877_2, eJx4a65c_grow_d5877_5, eJx4a65c_grow_d5877_10, eJx4a65c_grow_92f84_0, eJx4a65c_grow_92f84_0N, eJx4a65c_grow_92f84_1, eJx4a65c_grow_92f84_4, eJx4a65c_grow_92f84_5, eJx4a65c_grow_92f84_10, eJx4a65c_grow_92f84_10N, eJx4a65c_grow_92f84_11, eJx4a65c_grow_92f84_14, eJx4a65c_grow_92f84_17, eJx4a65c_grow_92f84_20, eJx4a65c_grow_92f84_30, eJx4a65c_grow_92f84_31, eJx4a65c_grow_92f84_31N, eJx4a65c_grow_92f84_32, eJx4a65c_grow_92f84_32N, eJx4a65c_grow_92f84_33, eJx4a65c_grow_92f84_36, eJx4a65c_grow_92f84_37R, eJx4a65c_grow_92f84_37N, eJx4a65c_grow_92f84_40IR, eJx4a65c_grow_92f84_40RR, eJx4a65c_grow_92f84_41, eJx4a65c_grow_92f84_44, eJx4a65c_grow_92f84_45, eJx4a65c_grow_92f84_45N, eJx4a65c_grow_92f84_46, eJx4a65c_grow_92f84_52, eJx4a65c_grow_92f84_55IR, eJx4a65c_grow_92f84_55RR, eJx4a65c_grow_92f84_56, eJx4a65c_grow_92f84_59, eJ8_newLength_cabcc_0, eJ8_newLength_cabcc_6, eJ8_newLength_cabcc_13, eJ8_newLength_cabcc_16, eJ8_newLength_cabcc_19, eJ8_newLength_cabcc_21, eJ8_newLength_cabcc_26, eJ7_copyOf_1904c_0, eJ7_copyOf_1904c_0N, eJ7_copyOf_1904c_1, eJ7_copyOf_1904c_2, eJ7_copyOf_1904c_2N, eJ7_copyOf_1904c_3, eJ7_copyOf_1904c_6RR, eJ7_copyOf_1904c_6NR, eJ7_copyOf_1904c_6RN, eJ7_copyOf_1904c_6NN, eJ7_copyOf_1904c_9, eJ7_copyOf_6403c_0, eJ7_copyOf_6403c_0N, eJ7_copyOf_6403c_1, eJ7_copyOf_6403c_3, eJ7_copyOf_6403c_6, eJ7_copyOf_6403c_10, eJ7_copyOf_6403c_13, eJ7_copyOf_6403c_13N, eJ7_copyOf_6403c_17, eJ7_copyOf_6403c_24, eJ7_copyOf_6403c_24N, eJ7_copyOf_6403c_25, eJ7_copyOf_6403c_25N, eJ7_copyOf_6403c_26, eJ7_copyOf_6403c_27, eJ7_copyOf_6403c_27N, eJ7_copyOf_6403c_28, eJ7_copyOf_6403c_29, eJ7_copyOf_6403c_29N, eJ7_copyOf_6403c_30, eJ7_copyOf_6403c_31, eJ7_copyOf_6403c_35O, eJ7_copyOf_6403c_35B, eJ7_copyOf_6403c_38, eJ7_copyOf_6403c_38N, eJ7_copyOf_6403c_39, ite_le, n45, n54, true_or, or_true, false_or, or_false, false_and, and_false, kx_l, kx_r, go_s, gl_s, gi_s, gb_s2, gb_s3, gq_s, wt_nil, wt_int, wt_long, wt_ref, wt_null, nl_int, nl_long, nl_ref, nl_null, nl_none, rf_n, rf_s, rf_st, tl_s, tl_n, g0, gS, ex1, nb_b, nb_0, nb_1, nf_i, nf_l, nf_ra, nf_ro, nf_na, nf_no, nf_b0, nf_z0, t45_4, t45_5, true_and, and_true, List.set_cons_zero, List.set_cons_succ, List.length_cons, List.length_nil, rd_s, upw_s, ne_eq, not_false_eq_true, Nat.zero_add, Nat.add_zero, if_true, if_false, hL, rL, rD, hqL, hqD, upw_n, rd_n, exal2, al56, cap10, cap15, i15n, i10n, i0n, z1510, n100, n150, z00, tyJx4a65c, nf_ra, upw2q, eJ7_copyOf_6403c_35O hD2 (upw_s _ _ _)]
  repeat' first | with_reducible refine And.intro ?_ ?_ | omega
  · intro j y hj hy
    exact gl_Roww ((hh _ _ hy).ext (g := g) (ext_up2 ext.rf hq)) fun _ => trivial
  · repeat' first | exact trivial | exact hQ q hq | with_reducible refine And.intro ?_ ?_ | omega
end
end
/-! 61.list2.lean.txt -/
section
section
variable {g : RO} {Q : Ot → Hw → Prop} {w0 w : Hw}
/-- what an adding or a removing leaves -/
def LPo (g : RO) (w0 w' : Hw) (L D : Nat) (n' : Int32) (H : (Nat → Option Nat) → Prop) : Prop := ∃ (D' cap' : Nat) (h' : Nat → Option Nat), LL g w' L D' cap' n' h' ∧ (∀ i b, h' i = some b → isRow w' b) ∧ (∀ a o, w0 a = some o → a ≠ L → a ≠ D → w' a = some o) ∧ (∀ a o, g.2 a = some o → w0 a = none → w' a = none) ∧ (D' = D ∨ (w0 D' = none ∧ g.2 D' = none)) ∧ H h'
/-- a row with one more at its end; in its midst; with one less -/
def HAd (h : Nat → Option Nat) (n : Nat) (v : Option Nat) (h' : Nat → Option Nat) : Prop := (∀ j, j < n → h' j = h j) ∧ h' n = v
def HIn (h : Nat → Option Nat) (n i : Nat) (v : Option Nat) (h' : Nat → Option Nat) : Prop := (∀ j, j < i → h' j = h j) ∧ h' i = v ∧ ∀ j, i ≤ j → j < n → h' (j + 1) = h j
def HRm (h : Nat → Option Nat) (n i : Nat) (h' : Nat → Option Nat) : Prop := (∀ j, j < i → h' j = h j) ∧ ∀ j, i ≤ j → j + 1 < n → h' j = h (j + 1)
theorem va_up_s {h : Nat → Option Nat} {k : Nat} {v : Option Nat} : va_up h k v k = v := by
  unfold va_up
  split
  · rfl
  · next e => exact absurd rfl e
theorem va_up_o {h : Nat → Option Nat} {k j : Nat} {v : Option Nat} (e : j ≠ k) : va_up h k v j = h j := by
  unfold va_up
  split
  · omega
  · rfl
theorem cpy0 {h f : Nat → Option Nat} {z j : Nat} (hj : j < z) : va_cpy h f 0 0 z j = h j := by
  rw [pk_cpy_in (Nat.zero_le _) (by omega), Nat.sub_zero, Nat.zero_add]
theorem HAd.mk {h h2 : Nat → Option Nat} {n : Nat} {v : Option Nat} (k : ∀ j, j < n → h2 j = h j) : HAd h n v (va_up h2 n v) := ⟨fun j hj => by rw [va_up_o (by omega)]; exact k j hj, va_up_s⟩
theorem HIn.mk {h h2 : Nat → Option Nat} {n i i1 d : Nat} {v : Option Nat} (k : ∀ j, j < n → h2 j = h j) (hi : i ≤ n) (e1 : i1 = i + 1) (e2 : d = n - i) : HIn h n i v (va_up (va_cpy h2 h2 i i1 d) i v) := by
  refine ⟨fun j hj => ?_, va_up_s, fun j h1 h2 => ?_⟩
  · rw [va_up_o (by omega), pk_cpy_out (Or.inl (by omega))]
    exact k j (by omega)
  · rw [va_up_o (by omega), pk_cpy_in (by omega) (by omega), ← k j h2]
    congr 1
    omega
theorem HRm.mk1 {h : Nat → Option Nat} {n i i1 d m : Nat} (e1 : m + 1 = n) (hi : i < m) (e2 : i1 = i + 1) (e3 : d = m - i) : HRm h n i (va_up (va_cpy h h i1 i d) m none) := by
  refine ⟨fun j hj => ?_, fun j h1 h2 => ?_⟩
  · rw [va_up_o (by omega), pk_cpy_out (Or.inl (by omega))]
  · rw [va_up_o (by omega), pk_cpy_in (by omega) (by omega)]
    congr 1
    omega
theorem HRm.mk2 {h : Nat → Option Nat} {n i m : Nat} (e1 : m + 1 = n) (hi : m ≤ i) (hn : i < n) : HRm h n i (va_up h m none) := by
  refine ⟨fun j hj => ?_, fun j h1 h2 => ?_⟩
  · rw [va_up_o (by omega)]
  · omega
theorem LPom {w' : Hw} {L D D' cap' : Nat} {fs : List Value} {mc' n' : Int32} {h' : Nat → Option Nat} (h0 : w0 L = some (.inr (3, fs))) (hL' : w' L = some (.inr (3, [.int mc', .ref D', .int n']))) (hD' : w' D' = some (.inl (5, cap', qc h'))) (hc : cap' = 10 ∨ cap' = 15) (b0 : 0 ≤ n'.toInt) (b1 : n'.toInt ≤ (cap' : Int)) (hf : ∀ a, a ≠ L → a ≠ D' → w' a = w0 a) (hfr : (D' = D ∧ ∃ c z, w0 D = some (.inl (5, c, z))) ∨ (w0 D' = none ∧ g.2 D' = none)) (hr : ∀ i b, h' i = some b → isRow w0 b) {H : (Nat → Option Nat) → Prop} (hH : H h') : LPo g w0 w' L D n' H := by
  refine ⟨D', cap', h', ⟨⟨mc', hL'⟩, Or.inl ⟨hD', hc⟩, b0, b1⟩, ?_, ?_, ?_, ?_, hH⟩
  · intro i b hb
    obtain ⟨f, hrow⟩ := hr i b hb
    refine ⟨f, ?_⟩
    rw [hf]
    · exact hrow
    · rintro rfl
      rw [h0] at hrow
      cases hrow
    · rintro rfl
      rcases hfr with ⟨rfl, c, z, e⟩ | ⟨e, -⟩
      · rw [e] at hrow
        cases hrow
      · rw [e] at hrow
        cases hrow
  · intro a o ha n1 n2
    rw [hf a n1]
    · exact ha
    · rintro rfl
      rcases hfr with ⟨rfl, -⟩ | ⟨e, -⟩
      · exact n2 rfl
      · rw [e] at ha
        cases ha
  · intro a o ha hn
    rw [hf]
    · exact hn
    · rintro rfl
      rw [h0] at hn
      cases hn
    · rintro rfl
      rcases hfr with ⟨rfl, c, z, e⟩ | ⟨-, e⟩
      · rw [e] at hn
        cases hn
      · rw [e] at ha
        cases ha
  · rcases hfr with ⟨e, -⟩ | e
    · exact Or.inl e
    · exact Or.inr e
theorem va_up_row {h : Nat → Option Nat} {k : Nat} {v : Option Nat} (hr : ∀ i b, h i = some b → isRow w b) (hv : ∀ b, v = some b → isRow w b) : ∀ i b, va_up h k v i = some b → isRow w b := fun i b => by
  unfold va_up
  split
  · exact hv b
  · exact hr i b
theorem cpy_row {h h2 : Nat → Option Nat} {x y z : Nat} (hr : ∀ i b, h i = some b → isRow w b) (hv : ∀ i b, h2 i = some b → isRow w b) : ∀ i b, va_cpy h h2 x y z i = some b → isRow w b := fun i b => by
  unfold va_cpy
  split
  · exact hr _ b
  · exact hv i b
theorem i32p1 {c : Int32} (h0 : 0 ≤ c.toInt) (h : c.toInt ≤ 2000) : (c + 1).toInt = c.toInt + 1 := i32_add (by show -2147483648 ≤ c.toInt + 1; omega) (by show c.toInt + 1 ≤ 2147483647; omega)
theorem ofNc {N : Nat} (h : N ≤ 5000) : (Int32.ofNat N).toInt = (N : Int) := Int32.toInt_ofNat_of_lt (by omega)
set_option maxHeartbeats 4000000 in
theorem lJx4a65c_add_72be8_11R {L D D' cap b k m : Nat} {mc n : Int32} {fs0 : List Value} {h : Nat → Option Nat} {w1 : Hw} (hb : isRow w0 b) (h0 : w0 L = some (.inr (3, fs0))) (hL : w1 L = some (.inr (3, [.int mc, .ref D', .int n]))) (hD : w1 D' = some (.inl (5, cap, qc h))) (hc : cap = 10 ∨ cap = 15) (hf1 : ∀ a, a ≠ L → a ≠ D' → w1 a = w0 a) (hfr : (D' = D ∧ ∃ c z, w0 D = some (.inl (5, c, z))) ∨ (w0 D' = none ∧ g.2 D' = none)) (hr : ∀ i b, h i = some b → isRow w0 b) (hn0 : 0 ≤ n.toInt) (hn1 : n.toInt < (cap : Int)) (hk : k ≤ 1) (hm : m ≤ 15) {H : (Nat → Option Nat) → Prop} (hH : H (va_up h n.toNatClampNeg (some b))) (hQ : ∀ w', LPo g w0 w' L D (n + 1) H → Q (.inl none) w') : WP (MJx4a65c_add_72be8 g) Q (11, [some (.ref L), some (.ref b), some (.ref D'), some (.int n)], [], w1, k, m) := by
  have iv : vp_in n cap := vpiM hn0 hn1
  have hLD : L ≠ D' := fun e => by
    rw [e, hD] at hL
    cases hL
  have e1 := i32p1 hn0 (by omega)
  have hbD : ∀ f0, w0 b = some (.inl (0, 4, .inr (.inl f0))) → b ≠ D' := fun f0 hrow e => by
    subst e
    rcases hfr with ⟨rfl, c, z, e⟩ | ⟨e, -⟩
    · rw [e] at hrow
      cases hrow
    · rw [e] at hrow
      cases hrow
  have hbw : isRow w1 b := by
    obtain ⟨f0, hrow⟩ := hb
    refine ⟨f0, ?_⟩
    rw [hf1]
    · exact hrow
    · rintro rfl
      rw [h0] at hrow
      cases hrow
    · exact hbD f0 hrow
  simp only [eJx4a65c_add_72be8_11, eJx4a65c_add_72be8_11N, eJx4a65c_add_72be8_12, eJx4a65c_add_72be8_13, eJx4a65c_add_72be8_13N, eJx4a65c_add_72be8_14N, eJx4a65c_add_72be8_14R, eJx4a65c_add_72be8_15, eJx4a65c_add_72be8_15N, eJx4a65c_add_72be8_16, eJx4a65c_add_72be8_22, ite_le, n45, n54, true_or, or_true, false_or, or_false, false_and, and_false, kx_l, kx_r, go_s, gl_s, gi_s, gb_s2, gb_s3, gq_s, wt_nil, wt_int, wt_long, wt_ref, wt_null, nl_int, nl_long, nl_ref, nl_null, nl_none, rf_n, rf_s, rf_st, tl_s, tl_n, g0, gS, ex1, nb_b, nb_0, nb_1, nf_i, nf_l, nf_ra, nf_ro, nf_na, nf_no, nf_b0, nf_z0, t45_4, t45_5, true_and, and_true, List.set_cons_zero, List.set_cons_succ, List.length_cons, List.length_nil, rd_s, upw_s, ne_eq, not_false_eq_true, Nat.zero_add, Nat.add_zero, if_true, if_false, eq_self, hL, hD, hLD, hLD.symm, upw_n, al56]
  with_reducible refine And.intro ?_ ?_
  with_reducible assumption
  with_reducible refine And.intro ?_ ?_
  with_reducible exact gl_Roww hbw (fun _ => trivial)
  with_reducible refine And.intro ?_ ?_
  omega
  with_reducible refine And.intro ?_ ?_
  with_reducible assumption
  with_reducible refine And.intro ?_ ?_
  with_reducible assumption
  refine hQ _ (LPom (D' := D') (cap' := cap) (mc' := mc) h0 (upw_s _ _ _) (by rw [upw_n hLD.symm]; exact upw_s _ _ _) hc (by omega) (by omega) (fun a n1 n2 => by rw [upw_n n1, upw_n n2]; exact hf1 a n1 n2) hfr (va_up_row hr (fun b0 e => by
    cases e
    exact hb)) hH)
set_option maxHeartbeats 4000000 in
theorem sJx4a65c_add_72be8R {L D cap b : Nat} {n : Int32} {fs0 : List Value} {h : Nat → Option Nat} (hb : isRow w0 b) (hE : EG g w) (hS : SG g) (hl : LL g w L D cap n h) (hr : ∀ i b, h i = some b → isRow w0 b) (hrw : ∀ i b, h i = some b → isRow w b) (h0 : w0 L = some (.inr (3, fs0))) (hf0 : ∀ a, a ≠ L → w a = w0 a) (hn : n.toInt < 15) (hQ : ∀ w', LPo g w0 w' L D (n + 1) (HAd h n.toNatClampNeg (some b)) → Q (.inl none) w') : WP (MJx4a65c_add_72be8 g) Q (0, [some (.ref L), some (.ref b), some (.ref D), some (.int n)], [], w, 0, 0) := by
  obtain ⟨mc, hL, rL, rD, hn0, hn1, n1, n2⟩ := hl.opn
  have eN := ofNc (N := cap) (by
    rcases hl.2.1 with ⟨-, e | e⟩ | ⟨e, -⟩ <;> omega)
  simp only [eJx4a65c_add_72be8_0, eJx4a65c_add_72be8_1, eJx4a65c_add_72be8_1N, eJx4a65c_add_72be8_2, eJx4a65c_add_72be8_3, ite_le, n45, n54, true_or, or_true, false_or, or_false, false_and, and_false, kx_l, kx_r, go_s, gl_s, gi_s, gb_s2, gb_s3, gq_s, wt_nil, wt_int, wt_long, wt_ref, wt_null, nl_int, nl_long, nl_ref, nl_null, nl_none, rf_n, rf_s, rf_st, tl_s, tl_n, g0, gS, ex1, nb_b, nb_0, nb_1, nf_i, nf_l, nf_ra, nf_ro, nf_na, nf_no, nf_b0, nf_z0, t45_4, t45_5, true_and, and_true, List.set_cons_zero, List.set_cons_succ, List.length_cons, List.length_nil, rd_s, upw_s, ne_eq, not_false_eq_true, Nat.zero_add, Nat.add_zero, if_true, if_false, eq_self, rL, rD, exal2, al56]
  split
  · next he =>
    have he : n.toInt = (cap : Int) := by rw [he, eN]
    simp only [eJx4a65c_add_72be8_6, eJx4a65c_add_72be8_6N, eJx4a65c_add_72be8_7, ite_le, n45, n54, true_or, or_true, false_or, or_false, false_and, and_false, kx_l, kx_r, go_s, gl_s, gi_s, gb_s2, gb_s3, gq_s, wt_nil, wt_int, wt_long, wt_ref, wt_null, nl_int, nl_long, nl_ref, nl_null, nl_none, rf_n, rf_s, rf_st, tl_s, tl_n, g0, gS, ex1, nb_b, nb_0, nb_1, nf_i, nf_l, nf_ra, nf_ro, nf_na, nf_no, nf_b0, nf_z0, t45_4, t45_5, true_and, and_true, List.set_cons_zero, List.set_cons_succ, List.length_cons, List.length_nil, rd_s, upw_s, ne_eq, not_false_eq_true, Nat.zero_add, Nat.add_zero, if_true, if_false, eq_self, rL]
    repeat' first | with_reducible refine And.intro ?_ ?_ | omega
    obtain ⟨-, h2, -, -⟩ := hl
    rcases h2 with ⟨h2, rfl | rfl⟩ | ⟨rfl, d1, d2, d3⟩
    · have n10 : n = 10 := Int32.toInt_inj.mp (by rw [he]; rfl)
      refine sJx4a65c_grow10 hE hS hL h2 hrw n10 (fun q hq => ?_)
      have hqn := rd_none hq
      have hqL : q ≠ L := fun e => by
        rw [e, hL] at hqn
        cases hqn
      simp only [eJx4a65c_add_72be8_10, eJx4a65c_add_72be8_10N, ite_le, n45, n54, true_or, or_true, false_or, or_false, false_and, and_false, kx_l, kx_r, go_s, gl_s, gi_s, gb_s2, gb_s3, gq_s, wt_nil, wt_int, wt_long, wt_ref, wt_null, nl_int, nl_long, nl_ref, nl_null, nl_none, rf_n, rf_s, rf_st, tl_s, tl_n, g0, gS, ex1, nb_b, nb_0, nb_1, nf_i, nf_l, nf_ra, nf_ro, nf_na, nf_no, nf_b0, nf_z0, t45_4, t45_5, true_and, and_true, List.set_cons_zero, List.set_cons_succ, List.length_cons, List.length_nil, rd_s, upw_s, ne_eq, not_false_eq_true, Nat.zero_add, Nat.add_zero, if_true, if_false, eq_self]
      exact lJx4a65c_add_72be8_11R (D' := q) (cap := 15) hb h0 (upw_s _ _ _) (by rw [upw_n hqL]; exact upw_s _ _ _) (Or.inr rfl) (fun a a1 a2 => by rw [upw_n a1, upw_n a2]; exact hf0 a a1) (Or.inr ⟨by rw [← hf0 q hqL]; exact hqn, rd_ro hq⟩) (cpy_row hr (fun _ _ e => by cases e)) hn0 (by omega) (by decide) (by decide) (HAd.mk (fun j hj => cpy0 (by have t : n.toNatClampNeg = n.toInt.toNat := rfl; omega))) hQ
    · omega
    · have n00 : n = 0 := Int32.toInt_inj.mp (by rw [he]; rfl)
      refine sJx4a65c_grow0 hE hS hL ⟨d1, d2, d3⟩ n00 (fun q hq => ?_)
      have hqn := rd_none hq
      have hqL : q ≠ L := fun e => by
        rw [e, hL] at hqn
        cases hqn
      simp only [eJx4a65c_add_72be8_10, eJx4a65c_add_72be8_10N, ite_le, n45, n54, true_or, or_true, false_or, or_false, false_and, and_false, kx_l, kx_r, go_s, gl_s, gi_s, gb_s2, gb_s3, gq_s, wt_nil, wt_int, wt_long, wt_ref, wt_null, nl_int, nl_long, nl_ref, nl_null, nl_none, rf_n, rf_s, rf_st, tl_s, tl_n, g0, gS, ex1, nb_b, nb_0, nb_1, nf_i, nf_l, nf_ra, nf_ro, nf_na, nf_no, nf_b0, nf_z0, t45_4, t45_5, true_and, and_true, List.set_cons_zero, List.set_cons_succ, List.length_cons, List.length_nil, rd_s, upw_s, ne_eq, not_false_eq_true, Nat.zero_add, Nat.add_zero, if_true, if_false, eq_self]
      exact lJx4a65c_add_72be8_11R (D' := q) (cap := 10) hb h0 (upw_s _ _ _) (by rw [upw_n hqL]; exact upw_s _ _ _) (Or.inl rfl) (fun a a1 a2 => by rw [upw_n a1, upw_n a2]; exact hf0 a a1) (Or.inr ⟨by rw [← hf0 q hqL]; exact hqn, rd_ro hq⟩) (fun _ _ e => by cases e) hn0 (by omega) (by decide) (by decide) (HAd.mk (fun j hj => by have t : n.toNatClampNeg = n.toInt.toNat := rfl; exfalso; omega)) hQ
  · next he =>
    have he : n.toInt ≠ (cap : Int) := fun e => he (Int32.toInt_inj.mp (by rw [e, eN]))
    obtain ⟨-, h2, -, -⟩ := hl
    rcases h2 with ⟨h2, h3⟩ | ⟨rfl, -⟩
    · exact lJx4a65c_add_72be8_11R (D' := D) hb h0 hL h2 h3 (fun a a1 _ => hf0 a a1) (Or.inl ⟨rfl, cap, _, by rw [← hf0 D n2]; exact h2⟩) hr hn0 (by omega) (by decide) (by decide) (HAd.mk (fun _ _ => rfl)) hQ
    · omega
set_option maxHeartbeats 4000000 in
theorem sJx4a65c_add_9ea2dR {L D cap b : Nat} {n : Int32} {h : Nat → Option Nat} (hb : isRow w b) (hE : EG g w) (hS : SG g) (hl : LL g w L D cap n h) (hr : ∀ i b, h i = some b → isRow w b) (hn : n.toInt < 15) (hQ : ∀ w', LPo g w w' L D (n + 1) (HAd h n.toNatClampNeg (some b)) → Q (.inl (some (.int 1))) w') : WP (MJx4a65c_add_9ea2d g) Q (0, [some (.ref L), some (.ref b)], [], w, 0, 0) := by
  obtain ⟨mc, hL, rL, rD, hn0, hn1, n1, n2⟩ := hl.opn
  have hE1 : EG g (upw w L (.inr (3, [.int (mc + 1), .ref D, .int n]))) := by
    obtain ⟨⟨e, e1, e2, e3⟩, m⟩ := hE
    refine ⟨⟨e, e1, e2, ?_⟩, m⟩
    rw [upw_n]
    · exact e3
    · rintro rfl
      rw [hL] at e3
      cases e3
  have hl1 : LL g (upw w L (.inr (3, [.int (mc + 1), .ref D, .int n]))) L D cap n h := by
    obtain ⟨-, h2, h3, h4⟩ := hl
    refine ⟨⟨mc + 1, upw_s _ _ _⟩, ?_, h3, h4⟩
    rw [upw_n n2]
    exact h2
  simp only [eJx4a65c_add_9ea2d_0, eJx4a65c_add_9ea2d_0N, eJx4a65c_add_9ea2d_1, eJx4a65c_add_9ea2d_1R, eJx4a65c_add_9ea2d_2, eJx4a65c_add_9ea2d_5, eJx4a65c_add_9ea2d_10, eJx4a65c_add_9ea2d_10N, eJx4a65c_add_9ea2d_11, eJx4a65c_add_9ea2d_11N, eJx4a65c_add_9ea2d_12, eJx4a65c_add_9ea2d_12N, eJx4a65c_add_9ea2d_13, eJx4a65c_add_9ea2d_16, eJx4a65c_add_9ea2d_16N, eJx4a65c_add_9ea2d_17, eJx4a65c_add_9ea2d_20RR, eJx4a65c_add_9ea2d_20NR, eJx4a65c_add_9ea2d_20RN, eJx4a65c_add_9ea2d_20NN, ite_le, n45, n54, true_or, or_true, false_or, or_false, false_and, and_false, kx_l, kx_r, go_s, gl_s, gi_s, gb_s2, gb_s3, gq_s, wt_nil, wt_int, wt_long, wt_ref, wt_null, nl_int, nl_long, nl_ref, nl_null, nl_none, rf_n, rf_s, rf_st, tl_s, tl_n, g0, gS, ex1, nb_b, nb_0, nb_1, nf_i, nf_l, nf_ra, nf_ro, nf_na, nf_no, nf_b0, nf_z0, t45_4, t45_5, true_and, and_true, List.set_cons_zero, List.set_cons_succ, List.length_cons, List.length_nil, rd_s, upw_s, ne_eq, not_false_eq_true, Nat.zero_add, Nat.add_zero, if_true, if_false, eq_self, rL, hL]
  repeat' first | with_reducible refine And.intro ?_ ?_ | omega
  refine sJx4a65c_add_72be8R (w0 := w) hb hE1 hS hl1 hr (fun i b hb => isRow_up (hr i b hb) hL (fun z e => by cases e)) hL (fun a ha => upw_n ha) hn (fun w' z => ?_)
  simp only [eJx4a65c_add_9ea2d_23, ite_le, n45, n54, true_or, or_true, false_or, or_false, false_and, and_false, kx_l, kx_r, go_s, gl_s, gi_s, gb_s2, gb_s3, gq_s, wt_nil, wt_int, wt_long, wt_ref, wt_null, nl_int, nl_long, nl_ref, nl_null, nl_none, rf_n, rf_s, rf_st, tl_s, tl_n, g0, gS, ex1, nb_b, nb_0, nb_1, nf_i, nf_l, nf_ra, nf_ro, nf_na, nf_no, nf_b0, nf_z0, t45_4, t45_5, true_and, and_true, List.set_cons_zero, List.set_cons_succ, List.length_cons, List.length_nil, rd_s, upw_s, ne_eq, not_false_eq_true, Nat.zero_add, Nat.add_zero, if_true, if_false, eq_self]
  repeat' first | with_reducible refine And.intro ?_ ?_ | omega
  all_goals exact hQ _ z
set_option maxHeartbeats 4000000 in
theorem lJx4a65c_add_72be8_11N {L D D' cap k m : Nat} {mc n : Int32} {fs0 : List Value} {h : Nat → Option Nat} {w1 : Hw} (h0 : w0 L = some (.inr (3, fs0))) (hL : w1 L = some (.inr (3, [.int mc, .ref D', .int n]))) (hD : w1 D' = some (.inl (5, cap, qc h))) (hc : cap = 10 ∨ cap = 15) (hf1 : ∀ a, a ≠ L → a ≠ D' → w1 a = w0 a) (hfr : (D' = D ∧ ∃ c z, w0 D = some (.inl (5, c, z))) ∨ (w0 D' = none ∧ g.2 D' = none)) (hr : ∀ i b, h i = some b → isRow w0 b) (hn0 : 0 ≤ n.toInt) (hn1 : n.toInt < (cap : Int)) (hk : k ≤ 1) (hm : m ≤ 15) {H : (Nat → Option Nat) → Prop} (hH : H (va_up h n.toNatClampNeg none)) (hQ : ∀ w', LPo g w0 w' L D (n + 1) H → Q (.inl none) w') : WP (MJx4a65c_add_72be8 g) Q (11, [some (.ref L), some .null, some (.ref D'), some (.int n)], [], w1, k, m) := by
  have iv : vp_in n cap := vpiM hn0 hn1
  have hLD : L ≠ D' := fun e => by
    rw [e, hD] at hL
    cases hL
  have e1 := i32p1 hn0 (by omega)
  simp only [eJx4a65c_add_72be8_11, eJx4a65c_add_72be8_11N, eJx4a65c_add_72be8_12, eJx4a65c_add_72be8_13, eJx4a65c_add_72be8_13N, eJx4a65c_add_72be8_14N, eJx4a65c_add_72be8_14R, eJx4a65c_add_72be8_15, eJx4a65c_add_72be8_15N, eJx4a65c_add_72be8_16, eJx4a65c_add_72be8_22, ite_le, n45, n54, true_or, or_true, false_or, or_false, false_and, and_false, kx_l, kx_r, go_s, gl_s, gi_s, gb_s2, gb_s3, gq_s, wt_nil, wt_int, wt_long, wt_ref, wt_null, nl_int, nl_long, nl_ref, nl_null, nl_none, rf_n, rf_s, rf_st, tl_s, tl_n, g0, gS, ex1, nb_b, nb_0, nb_1, nf_i, nf_l, nf_ra, nf_ro, nf_na, nf_no, nf_b0, nf_z0, t45_4, t45_5, true_and, and_true, List.set_cons_zero, List.set_cons_succ, List.length_cons, List.length_nil, rd_s, upw_s, ne_eq, not_false_eq_true, Nat.zero_add, Nat.add_zero, if_true, if_false, eq_self, hL, hD, hLD, hLD.symm, upw_n, al56]
  with_reducible refine And.intro ?_ ?_
  with_reducible assumption
  with_reducible refine And.intro ?_ ?_
  omega
  with_reducible refine And.intro ?_ ?_
  with_reducible assumption
  with_reducible refine And.intro ?_ ?_
  with_reducible assumption
  refine hQ _ (LPom (D' := D') (cap' := cap) (mc' := mc) h0 (upw_s _ _ _) (by rw [upw_n hLD.symm]; exact upw_s _ _ _) hc (by omega) (by omega) (fun a n1 n2 => by rw [upw_n n1, upw_n n2]; exact hf1 a n1 n2) hfr (va_up_row hr (fun b0 e => by cases e)) hH)
set_option maxHeartbeats 4000000 in
theorem sJx4a65c_add_72be8N {L D cap : Nat} {n : Int32} {fs0 : List Value} {h : Nat → Option Nat} (hE : EG g w) (hS : SG g) (hl : LL g w L D cap n h) (hr : ∀ i b, h i = some b → isRow w0 b) (hrw : ∀ i b, h i = some b → isRow w b) (h0 : w0 L = some (.inr (3, fs0))) (hf0 : ∀ a, a ≠ L → w a = w0 a) (hn : n.toInt < 15) (hQ : ∀ w', LPo g w0 w' L D (n + 1) (HAd h n.toNatClampNeg none) → Q (.inl none) w') : WP (MJx4a65c_add_72be8 g) Q (0, [some (.ref L), some .null, some (.ref D), some (.int n)], [], w, 0, 0) := by
  obtain ⟨mc, hL, rL, rD, hn0, hn1, n1, n2⟩ := hl.opn
  have eN := ofNc (N := cap) (by
    rcases hl.2.1 with ⟨-, e | e⟩ | ⟨e, -⟩ <;> omega)
  simp only [eJx4a65c_add_72be8_0, eJx4a65c_add_72be8_1, eJx4a65c_add_72be8_1N, eJx4a65c_add_72be8_2, eJx4a65c_add_72be8_3, ite_le, n45, n54, true_or, or_true, false_or, or_false, false_and, and_false, kx_l, kx_r, go_s, gl_s, gi_s, gb_s2, gb_s3, gq_s, wt_nil, wt_int, wt_long, wt_ref, wt_null, nl_int, nl_long, nl_ref, nl_null, nl_none, rf_n, rf_s, rf_st, tl_s, tl_n, g0, gS, ex1, nb_b, nb_0, nb_1, nf_i, nf_l, nf_ra, nf_ro, nf_na, nf_no, nf_b0, nf_z0, t45_4, t45_5, true_and, and_true, List.set_cons_zero, List.set_cons_succ, List.length_cons, List.length_nil, rd_s, upw_s, ne_eq, not_false_eq_true, Nat.zero_add, Nat.add_zero, if_true, if_false, eq_self, rL, rD, exal2, al56]
  split
  · next he =>
    have he : n.toInt = (cap : Int) := by rw [he, eN]
    simp only [eJx4a65c_add_72be8_6, eJx4a65c_add_72be8_6N, eJx4a65c_add_72be8_7, ite_le, n45, n54, true_or, or_true, false_or, or_false, false_and, and_false, kx_l, kx_r, go_s, gl_s, gi_s, gb_s2, gb_s3, gq_s, wt_nil, wt_int, wt_long, wt_ref, wt_null, nl_int, nl_long, nl_ref, nl_null, nl_none, rf_n, rf_s, rf_st, tl_s, tl_n, g0, gS, ex1, nb_b, nb_0, nb_1, nf_i, nf_l, nf_ra, nf_ro, nf_na, nf_no, nf_b0, nf_z0, t45_4, t45_5, true_and, and_true, List.set_cons_zero, List.set_cons_succ, List.length_cons, List.length_nil, rd_s, upw_s, ne_eq, not_false_eq_true, Nat.zero_add, Nat.add_zero, if_true, if_false, eq_self, rL]
    repeat' first | with_reducible refine And.intro ?_ ?_ | omega
    obtain ⟨-, h2, -, -⟩ := hl
    rcases h2 with ⟨h2, rfl | rfl⟩ | ⟨rfl, d1, d2, d3⟩
    · have n10 : n = 10 := Int32.toInt_inj.mp (by rw [he]; rfl)
      refine sJx4a65c_grow10 hE hS hL h2 hrw n10 (fun q hq => ?_)
      have hqn := rd_none hq
      have hqL : q ≠ L := fun e => by
        rw [e, hL] at hqn
        cases hqn
      simp only [eJx4a65c_add_72be8_10, eJx4a65c_add_72be8_10N, ite_le, n45, n54, true_or, or_true, false_or, or_false, false_and, and_false, kx_l, kx_r, go_s, gl_s, gi_s, gb_s2, gb_s3, gq_s, wt_nil, wt_int, wt_long, wt_ref, wt_null, nl_int, nl_long, nl_ref, nl_null, nl_none, rf_n, rf_s, rf_st, tl_s, tl_n, g0, gS, ex1, nb_b, nb_0, nb_1, nf_i, nf_l, nf_ra, nf_ro, nf_na, nf_no, nf_b0, nf_z0, t45_4, t45_5, true_and, and_true, List.set_cons_zero, List.set_cons_succ, List.length_cons, List.length_nil, rd_s, upw_s, ne_eq, not_false_eq_true, Nat.zero_add, Nat.add_zero, if_true, if_false, eq_self]
      exact lJx4a65c_add_72be8_11N (D' := q) (cap := 15) h0 (upw_s _ _ _) (by rw [upw_n hqL]; exact upw_s _ _ _) (Or.inr rfl) (fun a a1 a2 => by rw [upw_n a1, upw_n a2]; exact hf0 a a1) (Or.inr ⟨by rw [← hf0 q hqL]; exact hqn, rd_ro hq⟩) (cpy_row hr (fun _ _ e => by cases e)) hn0 (by omega) (by decide) (by decide) (HAd.mk (fun j hj => cpy0 (by have t : n.toNatClampNeg = n.toInt.toNat := rfl; omega))) hQ
    · omega
    · have n00 : n = 0 := Int32.toInt_inj.mp (by rw [he]; rfl)
      refine sJx4a65c_grow0 hE hS hL ⟨d1, d2, d3⟩ n00 (fun q hq => ?_)
      have hqn := rd_none hq
      have hqL : q ≠ L := fun e => by
        rw [e, hL] at hqn
        cases hqn
      simp only [eJx4a65c_add_72be8_10, eJx4a65c_add_72be8_10N, ite_le, n45, n54, true_or, or_true, false_or, or_false, false_and, and_false, kx_l, kx_r, go_s, gl_s, gi_s, gb_s2, gb_s3, gq_s, wt_nil, wt_int, wt_long, wt_ref, wt_null, nl_int, nl_long, nl_ref, nl_null, nl_none, rf_n, rf_s, rf_st, tl_s, tl_n, g0, gS, ex1, nb_b, nb_0, nb_1, nf_i, nf_l, nf_ra, nf_ro, nf_na, nf_no, nf_b0, nf_z0, t45_4, t45_5, true_and, and_true, List.set_cons_zero, List.set_cons_succ, List.length_cons, List.length_nil, rd_s, upw_s, ne_eq, not_false_eq_true, Nat.zero_add, Nat.add_zero, if_true, if_false, eq_self]
      exact lJx4a65c_add_72be8_11N (D' := q) (cap := 10) h0 (upw_s _ _ _) (by rw [upw_n hqL]; exact upw_s _ _ _) (Or.inl rfl) (fun a a1 a2 => by rw [upw_n a1, upw_n a2]; exact hf0 a a1) (Or.inr ⟨by rw [← hf0 q hqL]; exact hqn, rd_ro hq⟩) (fun _ _ e => by cases e) hn0 (by omega) (by decide) (by decide) (HAd.mk (fun j hj => by have t : n.toNatClampNeg = n.toInt.toNat := rfl; exfalso; omega)) hQ
  · next he =>
    have he : n.toInt ≠ (cap : Int) := fun e => he (Int32.toInt_inj.mp (by rw [e, eN]))
    obtain ⟨-, h2, -, -⟩ := hl
    rcases h2 with ⟨h2, h3⟩ | ⟨rfl, -⟩
    · exact lJx4a65c_add_72be8_11N (D' := D) h0 hL h2 h3 (fun a a1 _ => hf0 a a1) (Or.inl ⟨rfl, cap, _, by rw [← hf0 D n2]; exact h2⟩) hr hn0 (by omega) (by decide) (by decide) (HAd.mk (fun _ _ => rfl)) hQ
    · omega
set_option maxHeartbeats 4000000 in
theorem sJx4a65c_add_9ea2dN {L D cap : Nat} {n : Int32} {h : Nat → Option Nat} (hE : EG g w) (hS : SG g) (hl : LL g w L D cap n h) (hr : ∀ i b, h i = some b → isRow w b) (hn : n.toInt < 15) (hQ : ∀ w', LPo g w w' L D (n + 1) (HAd h n.toNatClampNeg none) → Q (.inl (some (.int 1))) w') : WP (MJx4a65c_add_9ea2d g) Q (0, [some (.ref L), some .null], [], w, 0, 0) := by
  obtain ⟨mc, hL, rL, rD, hn0, hn1, n1, n2⟩ := hl.opn
  have hE1 : EG g (upw w L (.inr (3, [.int (mc + 1), .ref D, .int n]))) := by
    obtain ⟨⟨e, e1, e2, e3⟩, m⟩ := hE
    refine ⟨⟨e, e1, e2, ?_⟩, m⟩
    rw [upw_n]
    · exact e3
    · rintro rfl
      rw [hL] at e3
      cases e3
  have hl1 : LL g (upw w L (.inr (3, [.int (mc + 1), .ref D, .int n]))) L D cap n h := by
    obtain ⟨-, h2, h3, h4⟩ := hl
    refine ⟨⟨mc + 1, upw_s _ _ _⟩, ?_, h3, h4⟩
    rw [upw_n n2]
    exact h2
  simp only [eJx4a65c_add_9ea2d_0, eJx4a65c_add_9ea2d_0N, eJx4a65c_add_9ea2d_1, eJx4a65c_add_9ea2d_1R, eJx4a65c_add_9ea2d_2, eJx4a65c_add_9ea2d_5, eJx4a65c_add_9ea2d_10, eJx4a65c_add_9ea2d_10N, eJx4a65c_add_9ea2d_11, eJx4a65c_add_9ea2d_11N, eJx4a65c_add_9ea2d_12, eJx4a65c_add_9ea2d_12N, eJx4a65c_add_9ea2d_13, eJx4a65c_add_9ea2d_16, eJx4a65c_add_9ea2d_16N, eJx4a65c_add_9ea2d_17, eJx4a65c_add_9ea2d_20RR, eJx4a65c_add_9ea2d_20NR, eJx4a65c_add_9ea2d_20RN, eJx4a65c_add_9ea2d_20NN, ite_le, n45, n54, true_or, or_true, false_or, or_false, false_and, and_false, kx_l, kx_r, go_s, gl_s, gi_s, gb_s2, gb_s3, gq_s, wt_nil, wt_int, wt_long, wt_ref, wt_null, nl_int, nl_long, nl_ref, nl_null, nl_none, rf_n, rf_s, rf_st, tl_s, tl_n, g0, gS, ex1, nb_b, nb_0, nb_1, nf_i, nf_l, nf_ra, nf_ro, nf_na, nf_no, nf_b0, nf_z0, t45_4, t45_5, true_and, and_true, List.set_cons_zero, List.set_cons_succ, List.length_cons, List.length_nil, rd_s, upw_s, ne_eq, not_false_eq_true, Nat.zero_add, Nat.add_zero, if_true, if_false, eq_self, rL, hL]
  repeat' first | with_reducible refine And.intro ?_ ?_ | omega
  refine sJx4a65c_add_72be8N (w0 := w) hE1 hS hl1 hr (fun i b hb => isRow_up (hr i b hb) hL (fun z e => by cases e)) hL (fun a ha => upw_n ha) hn (fun w' z => ?_)
  simp only [eJx4a65c_add_9ea2d_23, ite_le, n45, n54, true_or, or_true, false_or, or_false, false_and, and_false, kx_l, kx_r, go_s, gl_s, gi_s, gb_s2, gb_s3, gq_s, wt_nil, wt_int, wt_long, wt_ref, wt_null, nl_int, nl_long, nl_ref, nl_null, nl_none, rf_n, rf_s, rf_st, tl_s, tl_n, g0, gS, ex1, nb_b, nb_0, nb_1, nf_i, nf_l, nf_ra, nf_ro, nf_na, nf_no, nf_b0, nf_z0, t45_4, t45_5, true_and, and_true, List.set_cons_zero, List.set_cons_succ, List.length_cons, List.length_nil, rd_s, upw_s, ne_eq, not_false_eq_true, Nat.zero_add, Nat.add_zero, if_true, if_false, eq_self]
  repeat' first | with_reducible refine And.intro ?_ ?_ | omega
  all_goals exact hQ _ z
end
end
/-! 61.list3.lean.txt -/
section
section
variable {g : RO} {Q : Ot → Hw → Prop} {w0 w : Hw}
set_option maxHeartbeats 4000000 in
theorem lJx4a65c_add_7a177_38R {L D D' cap b k m : Nat} {mc n i : Int32} {fs0 : List Value} {h : Nat → Option Nat} {w1 : Hw} (hb : isRow w0 b) (hbw : isRow w1 b) (h0 : w0 L = some (.inr (3, fs0))) (hL : w1 L = some (.inr (3, [.int mc, .ref D', .int n]))) (hD : w1 D' = some (.inl (5, cap, qc h))) (hc : cap = 10 ∨ cap = 15) (hf1 : ∀ a, a ≠ L → a ≠ D' → w1 a = w0 a) (hfr : (D' = D ∧ ∃ c z, w0 D = some (.inl (5, c, z))) ∨ (w0 D' = none ∧ g.2 D' = none)) (hr : ∀ i b, h i = some b → isRow w0 b) (hrw : ∀ i b, h i = some b → isRow w1 b) (k0 : 0 ≤ i.toInt) (k1 : i.toInt ≤ n.toInt) (hn1 : n.toInt < (cap : Int)) (hk : k ≤ 1) (hm : m ≤ 15) {H : (Nat → Option Nat) → Prop} (hH : H (va_up (va_cpy h h i.toNatClampNeg (i + 1).toNatClampNeg (n - i).toNatClampNeg) i.toNatClampNeg (some b))) (hQ : ∀ w', LPo g w0 w' L D (n + 1) H → Q (.inl none) w') : WP (MJx4a65c_add_7a177 g) Q (38, [some (.ref L), some (.int i), some (.ref b), some (.int n), some (.ref D')], [], w1, k, m) := by
  have iv : vp_in i cap := vpiM k0 (by omega)
  have hLD : L ≠ D' := fun e => by
    rw [e, hD] at hL
    cases hL
  obtain ⟨i1, hi1⟩ : ∃ i1, i + 1 = i1 := ⟨_, rfl⟩
  obtain ⟨d, hd⟩ : ∃ d, n - i = d := ⟨_, rfl⟩
  obtain ⟨n9, hn9⟩ : ∃ n9, n + 1 = n9 := ⟨_, rfl⟩
  have e1 : n9.toInt = n.toInt + 1 := by rw [← hn9]; exact i32p1 (by omega) (by omega)
  have e2 : i1.toInt = i.toInt + 1 := by rw [← hi1]; exact i32p1 (by omega) (by omega)
  have e3 : d.toInt = n.toInt - i.toInt := by rw [← hd]; exact i32_sub (by omega) (by omega)
  have t1 : i.toNatClampNeg = i.toInt.toNat := rfl
  have t2 : i1.toNatClampNeg = i1.toInt.toNat := rfl
  have t3 : d.toNatClampNeg = d.toInt.toNat := rfl
  have g1 : i.toNatClampNeg + d.toNatClampNeg ≤ cap := by omega
  have g2 : i1.toNatClampNeg + d.toNatClampNeg ≤ cap := by omega
  have hbw2 : isRow (upw w1 D' (.inl (5, cap, qc (va_cpy h h i.toNatClampNeg i1.toNatClampNeg d.toNatClampNeg)))) b := isRow_up hbw hD (fun z e => by cases e)
  simp only [eJx4a65c_add_7a177_38, eJx4a65c_add_7a177_38N, eJx4a65c_add_7a177_40, eJx4a65c_add_7a177_41, eJx4a65c_add_7a177_41N, eJx4a65c_add_7a177_43, eJx4a65c_add_7a177_49O, eJx4a65c_add_7a177_49B, eJx4a65c_add_7a177_52, eJx4a65c_add_7a177_52N, eJx4a65c_add_7a177_54, eJx4a65c_add_7a177_55, eJx4a65c_add_7a177_55N, eJx4a65c_add_7a177_56N, eJx4a65c_add_7a177_56R, eJx4a65c_add_7a177_57, eJx4a65c_add_7a177_57N, eJx4a65c_add_7a177_58, eJx4a65c_add_7a177_64, ite_le, n45, n54, true_or, or_true, false_or, or_false, false_and, and_false, kx_l, kx_r, go_s, gl_s, gi_s, gb_s2, gb_s3, gq_s, wt_nil, wt_int, wt_long, wt_ref, wt_null, nl_int, nl_long, nl_ref, nl_null, nl_none, rf_n, rf_s, rf_st, tl_s, tl_n, g0, gS, ex1, nb_b, nb_0, nb_1, nf_i, nf_l, nf_ra, nf_ro, nf_na, nf_no, nf_b0, nf_z0, t45_4, t45_5, true_and, and_true, List.set_cons_zero, List.set_cons_succ, List.length_cons, List.length_nil, rd_s, upw_s, ne_eq, not_false_eq_true, Nat.zero_add, Nat.add_zero, if_true, if_false, eq_self, hL, hD, hLD, hLD.symm, upw_n, al56, hi1, hd, hn9, i32_z k0, i32_z (show 0 ≤ i1.toInt by omega), i32_z (show 0 ≤ d.toInt by omega), upw2q, eJx4a65c_add_7a177_49O hD hD]
  with_reducible refine And.intro ?_ ?_
  omega
  with_reducible refine And.intro ?_ ?_
  with_reducible assumption
  with_reducible refine And.intro ?_ ?_
  with_reducible assumption
  with_reducible refine And.intro ?_ ?_
  with_reducible exact fun j y _ hy => gl_Roww (hrw _ _ hy) (fun _ => trivial)
  with_reducible refine And.intro ?_ ?_
  with_reducible assumption
  with_reducible refine And.intro ?_ ?_
  with_reducible exact gl_Roww hbw2 (fun _ => trivial)
  with_reducible refine And.intro ?_ ?_
  omega
  with_reducible refine And.intro ?_ ?_
  with_reducible assumption
  with_reducible refine And.intro ?_ ?_
  with_reducible assumption
  rw [hn9] at hQ
  rw [hi1, hd] at hH
  refine hQ _ (LPom (D' := D') (cap' := cap) (mc' := mc) h0 (upw_s _ _ _) (by rw [upw_n hLD.symm]; exact upw_s _ _ _) hc (by omega) (by omega) (fun a n1 n2 => by rw [upw_n n1, upw_n n2]; first | exact hf1 a n1 n2 | (rw [upw_n n2]; exact hf1 a n1 n2)) hfr (va_up_row (cpy_row hr hr) (fun b0 e => by
    cases e
    exact hb)) hH)
set_option maxHeartbeats 4000000 in
theorem sJx4a65c_add_7a177R {L D cap b : Nat} {n i : Int32} {h : Nat → Option Nat} (hb : isRow w b) (hE : EG g w) (hS : SG g) (hl : LL g w L D cap n h) (hr : ∀ i b, h i = some b → isRow w b) (k0 : 0 ≤ i.toInt) (k1 : i.toInt ≤ n.toInt) (hn : n.toInt < 15) (hQ : ∀ w', LPo g w w' L D (n + 1) (HIn h n.toNatClampNeg i.toNatClampNeg (some b)) → Q (.inl none) w') : WP (MJx4a65c_add_7a177 g) Q (0, [some (.ref L), some (.int i), some (.ref b), none, none], [], w, 0, 0) := by
  obtain ⟨mc, hL, rL, rD, hn0, hn1, n1, n2⟩ := hl.opn
  have ti : (i + 1).toNatClampNeg = i.toNatClampNeg + 1 := by
    have e := i32p1 (c := i) k0 (by omega)
    show (i + 1).toInt.toNat = i.toInt.toNat + 1
    rw [e]
    omega
  have td : (n - i).toNatClampNeg = n.toNatClampNeg - i.toNatClampNeg := by
    have e : (n - i).toInt = n.toInt - i.toInt := i32_sub (by omega) (by omega)
    show (n - i).toInt.toNat = n.toInt.toNat - i.toInt.toNat
    rw [e]
    omega
  have kin : i.toNatClampNeg ≤ n.toNatClampNeg := by
    show i.toInt.toNat ≤ n.toInt.toNat
    omega
  obtain ⟨w1, hw1⟩ : ∃ w1, upw w L (.inr (3, [.int (mc + 1), .ref D, .int n])) = w1 := ⟨_, rfl⟩
  have hE1 : EG g w1 := by
    rw [← hw1]
    obtain ⟨⟨e, e1, e2, e3⟩, m⟩ := hE
    refine ⟨⟨e, e1, e2, ?_⟩, m⟩
    rw [upw_n]
    · exact e3
    · rintro rfl
      rw [hL] at e3
      cases e3
  have hL1 : w1 L = some (.inr (3, [.int (mc + 1), .ref D, .int n])) := by rw [← hw1]; exact upw_s _ _ _
  have rL1 := rd_e (g := g) hL1
  have rD1 : rd g w1 D = some (.inl (5, cap, qc h)) := by
    rw [← hw1, rd_n n2]
    exact rD
  have hf : ∀ a, a ≠ L → w1 a = w a := fun a ha => by rw [← hw1]; exact upw_n ha
  have tr : ∀ b, isRow w b → isRow w1 b := fun b hb => by
    rw [← hw1]
    exact isRow_up hb hL (fun z e => by cases e)
  have hrw : ∀ i b, h i = some b → isRow w1 b := fun i b hb => tr b (hr i b hb)
  have eN := ofNc (N := cap) (by
    rcases hl.2.1 with ⟨-, e | e⟩ | ⟨e, -⟩ <;> omega)
  have q1 : (n < i) = False := i32_f k1
  have q2 : ((0 : Int32) ≤ i) = True := eq_true (Int32.le_iff_toInt_le.mpr (by have z0 : (0 : Int32).toInt = 0 := rfl; omega))
  simp only [eJx4a65c_add_7a177_0, eJx4a65c_add_7a177_0N, eJx4a65c_add_7a177_1, eJx4a65c_add_7a177_5, eJx4a65c_add_7a177_5N, eJx4a65c_add_7a177_6, eJx4a65c_add_7a177_6R, eJx4a65c_add_7a177_7, eJx4a65c_add_7a177_10, eJx4a65c_add_7a177_12, eJx4a65c_rangeCheckForAdd_d00df_0, eJx4a65c_rangeCheckForAdd_d00df_1, eJx4a65c_rangeCheckForAdd_d00df_1N, eJx4a65c_rangeCheckForAdd_d00df_2, eJx4a65c_rangeCheckForAdd_d00df_5, eJx4a65c_rangeCheckForAdd_d00df_8, eJx4a65c_rangeCheckForAdd_d00df_15, eJx4a65c_rangeCheckForAdd_d00df_15R, eJx4a65c_rangeCheckForAdd_d00df_16, eJx4a65c_rangeCheckForAdd_d00df_16N, eJx4a65c_rangeCheckForAdd_d00df_17, eJx4a65c_rangeCheckForAdd_d00df_25, ite_le, n45, n54, true_or, or_true, false_or, or_false, false_and, and_false, kx_l, kx_r, go_s, gl_s, gi_s, gb_s2, gb_s3, gq_s, wt_nil, wt_int, wt_long, wt_ref, wt_null, nl_int, nl_long, nl_ref, nl_null, nl_none, rf_n, rf_s, rf_st, tl_s, tl_n, g0, gS, ex1, nb_b, nb_0, nb_1, nf_i, nf_l, nf_ra, nf_ro, nf_na, nf_no, nf_b0, nf_z0, t45_4, t45_5, true_and, and_true, List.set_cons_zero, List.set_cons_succ, List.length_cons, List.length_nil, rd_s, upw_s, ne_eq, not_false_eq_true, Nat.zero_add, Nat.add_zero, if_true, if_false, eq_self, rL, hL, q1, q2, hw1]
  repeat' first | with_reducible refine And.intro ?_ ?_ | omega
  simp only [eJx4a65c_add_7a177_12, eJx4a65c_add_7a177_15, eJx4a65c_add_7a177_15N, eJx4a65c_add_7a177_16, eJx4a65c_add_7a177_19, eJx4a65c_add_7a177_19R, eJx4a65c_add_7a177_20, eJx4a65c_add_7a177_21, eJx4a65c_add_7a177_21N, eJx4a65c_add_7a177_22, eJx4a65c_add_7a177_25, eJx4a65c_add_7a177_25R, eJx4a65c_add_7a177_26, eJx4a65c_add_7a177_26N, eJx4a65c_add_7a177_28, eJx4a65c_add_7a177_29, ite_le, n45, n54, true_or, or_true, false_or, or_false, false_and, and_false, kx_l, kx_r, go_s, gl_s, gi_s, gb_s2, gb_s3, gq_s, wt_nil, wt_int, wt_long, wt_ref, wt_null, nl_int, nl_long, nl_ref, nl_null, nl_none, rf_n, rf_s, rf_st, tl_s, tl_n, g0, gS, ex1, nb_b, nb_0, nb_1, nf_i, nf_l, nf_ra, nf_ro, nf_na, nf_no, nf_b0, nf_z0, t45_4, t45_5, true_and, and_true, List.set_cons_zero, List.set_cons_succ, List.length_cons, List.length_nil, rd_s, upw_s, ne_eq, not_false_eq_true, Nat.zero_add, Nat.add_zero, if_true, if_false, eq_self, rL1, rD1, exal2, al56]
  split
  · next he =>
    have he : n.toInt = (cap : Int) := by rw [he, eN]
    simp only [eJx4a65c_add_7a177_32, eJx4a65c_add_7a177_32N, eJx4a65c_add_7a177_33, ite_le, n45, n54, true_or, or_true, false_or, or_false, false_and, and_false, kx_l, kx_r, go_s, gl_s, gi_s, gb_s2, gb_s3, gq_s, wt_nil, wt_int, wt_long, wt_ref, wt_null, nl_int, nl_long, nl_ref, nl_null, nl_none, rf_n, rf_s, rf_st, tl_s, tl_n, g0, gS, ex1, nb_b, nb_0, nb_1, nf_i, nf_l, nf_ra, nf_ro, nf_na, nf_no, nf_b0, nf_z0, t45_4, t45_5, true_and, and_true, List.set_cons_zero, List.set_cons_succ, List.length_cons, List.length_nil, rd_s, upw_s, ne_eq, not_false_eq_true, Nat.zero_add, Nat.add_zero, if_true, if_false, eq_self, rL1]
    repeat' first | with_reducible refine And.intro ?_ ?_ | omega
    obtain ⟨-, h2, -, -⟩ := hl
    have grown : ∀ (q c9 : Nat) (h9 : Nat → Option Nat), rd g w1 q = none → (c9 = 10 ∨ c9 = 15) → n.toInt < (c9 : Int) → (∀ i b, h9 i = some b → isRow w b) → (∀ j, j < n.toNatClampNeg → h9 j = h j) → ∀ (k m : Nat), k ≤ 1 → m ≤ 15 → WP (MJx4a65c_add_7a177 g) Q (38, [some (.ref L), some (.int i), some (.ref b), some (.int n), some (.ref q)], [], upw (upw w1 q (.inl (5, c9, qc h9))) L (.inr (3, [.int (mc + 1), .ref q, .int n])), k, m) := by
      intro q c9 h9 hq hc hlt hr9 hk9 k m hk hm
      have hqn := rd_none hq
      have hqL : q ≠ L := fun e => by
        rw [e, hL1] at hqn
        cases hqn
      have tr2 : ∀ b, isRow w b → isRow (upw (upw w1 q (.inl (5, c9, qc h9))) L (.inr (3, [.int (mc + 1), .ref q, .int n]))) b := fun b hb => by
        obtain ⟨f0, hrow⟩ := tr b hb
        have b1 : b ≠ L := fun e => by
          rw [e, hL1] at hrow
          cases hrow
        have b2 : b ≠ q := fun e => by
          rw [e, hqn] at hrow
          cases hrow
        exact ⟨f0, by rw [upw_n b1, upw_n b2]; exact hrow⟩
      exact lJx4a65c_add_7a177_38R (w0 := w) (D' := q) (cap := c9) hb (tr2 b hb) hL (upw_s _ _ _) (by rw [upw_n hqL]; exact upw_s _ _ _) hc (fun a a1 a2 => by rw [upw_n a1, upw_n a2]; exact hf a a1) (Or.inr ⟨by rw [← hf q hqL]; exact hqn, rd_ro hq⟩) hr9 (fun i b hb => tr2 b (hr9 i b hb)) k0 k1 hlt hk hm (HIn.mk hk9 kin ti td) hQ
    rcases h2 with ⟨h2, rfl | rfl⟩ | ⟨rfl, d1, d2, d3⟩
    · have n10 : n = 10 := Int32.toInt_inj.mp (by rw [he]; rfl)
      refine sJx4a65c_grow10 hE1 hS hL1 (by rw [hf D n2]; exact h2) hrw n10 (fun q hq => ?_)
      simp only [eJx4a65c_add_7a177_36, eJx4a65c_add_7a177_36N, ite_le, n45, n54, true_or, or_true, false_or, or_false, false_and, and_false, kx_l, kx_r, go_s, gl_s, gi_s, gb_s2, gb_s3, gq_s, wt_nil, wt_int, wt_long, wt_ref, wt_null, nl_int, nl_long, nl_ref, nl_null, nl_none, rf_n, rf_s, rf_st, tl_s, tl_n, g0, gS, ex1, nb_b, nb_0, nb_1, nf_i, nf_l, nf_ra, nf_ro, nf_na, nf_no, nf_b0, nf_z0, t45_4, t45_5, true_and, and_true, List.set_cons_zero, List.set_cons_succ, List.length_cons, List.length_nil, rd_s, upw_s, ne_eq, not_false_eq_true, Nat.zero_add, Nat.add_zero, if_true, if_false, eq_self]
      exact grown q 15 _ hq (Or.inr rfl) (by omega) (cpy_row hr (fun _ _ e => by cases e)) (fun j hj => cpy0 (by have t : n.toNatClampNeg = n.toInt.toNat := rfl; omega)) _ _ (by decide) (by decide)
    · omega
    · have n00 : n = 0 := Int32.toInt_inj.mp (by rw [he]; rfl)
      refine sJx4a65c_grow0 hE1 hS hL1 ⟨d1, by rw [hf D n2]; exact d2, d3⟩ n00 (fun q hq => ?_)
      simp only [eJx4a65c_add_7a177_36, eJx4a65c_add_7a177_36N, ite_le, n45, n54, true_or, or_true, false_or, or_false, false_and, and_false, kx_l, kx_r, go_s, gl_s, gi_s, gb_s2, gb_s3, gq_s, wt_nil, wt_int, wt_long, wt_ref, wt_null, nl_int, nl_long, nl_ref, nl_null, nl_none, rf_n, rf_s, rf_st, tl_s, tl_n, g0, gS, ex1, nb_b, nb_0, nb_1, nf_i, nf_l, nf_ra, nf_ro, nf_na, nf_no, nf_b0, nf_z0, t45_4, t45_5, true_and, and_true, List.set_cons_zero, List.set_cons_succ, List.length_cons, List.length_nil, rd_s, upw_s, ne_eq, not_false_eq_true, Nat.zero_add, Nat.add_zero, if_true, if_false, eq_self]
      exact grown q 10 _ hq (Or.inl rfl) (by omega) (fun _ _ e => by cases e) (fun j hj => by have t : n.toNatClampNeg = n.toInt.toNat := rfl; exfalso; omega) _ _ (by decide) (by decide)
  · next he =>
    have he : n.toInt ≠ (cap : Int) := fun e => he (Int32.toInt_inj.mp (by rw [e, eN]))
    obtain ⟨-, h2, -, -⟩ := hl
    rcases h2 with ⟨h2, h3⟩ | ⟨rfl, -⟩
    · exact lJx4a65c_add_7a177_38R (w0 := w) (D' := D) hb (tr b hb) hL hL1 (by rw [hf D n2]; exact h2) h3 (fun a a1 _ => hf a a1) (Or.inl ⟨rfl, cap, _, h2⟩) hr hrw k0 k1 (by omega) (by decide) (by decide) (HIn.mk (fun _ _ => rfl) kin ti td) hQ
    · omega
end
end
/-! 61.list4.lean.txt -/
section
section
variable {g : RO} {Q : Ot → Hw → Prop} {w0 w : Hw}
set_option maxHeartbeats 4000000 in
theorem sJx4a65c_fastRemove_b59b0 {L D cap : Nat} {mc n i : Int32} {h : Nat → Option Nat} (hL : w L = some (.inr (3, [.int mc, .ref D, .int n]))) (hD : w D = some (.inl (5, cap, qc h))) (hc : cap = 10 ∨ cap = 15) (hr : ∀ i b, h i = some b → isRow w b) (k0 : 0 ≤ i.toInt) (k1 : i.toInt < n.toInt) (hn : n.toInt ≤ (cap : Int)) (hQ : ∀ w', LPo g w w' L D (n - 1) (HRm h n.toNatClampNeg i.toNatClampNeg) → Q (.inl none) w') : WP (MJx4a65c_fastRemove_b59b0 g) Q (0, [some (.ref L), some (.ref D), some (.int i), none], [], w, 0, 0) := by
  have rL := rd_e (g := g) hL
  have rD := rd_e (g := g) hD
  have n1 : L ≠ D := fun e => by
    rw [e, hD] at hL
    cases hL
  have n2 := n1.symm
  obtain ⟨m, hm⟩ : ∃ m, n - 1 = m := ⟨_, rfl⟩
  obtain ⟨i1, hi1⟩ : ∃ i1, i + 1 = i1 := ⟨_, rfl⟩
  obtain ⟨d, hd⟩ : ∃ d, m - i = d := ⟨_, rfl⟩
  have z1 : (1 : Int32).toInt = 1 := rfl
  have e1 : m.toInt = n.toInt - 1 := by
    rw [← hm, i32_sub (by omega) (by omega), z1]
  have e2 : i1.toInt = i.toInt + 1 := by rw [← hi1]; exact i32p1 (by omega) (by omega)
  have e3 : d.toInt = m.toInt - i.toInt := by rw [← hd]; exact i32_sub (by omega) (by omega)
  have t1 : i.toNatClampNeg = i.toInt.toNat := rfl
  have t2 : i1.toNatClampNeg = i1.toInt.toNat := rfl
  have t3 : d.toNatClampNeg = d.toInt.toNat := rfl
  have t4 : m.toNatClampNeg = m.toInt.toNat := rfl
  have t5 : n.toNatClampNeg = n.toInt.toNat := rfl
  have mv : vp_in m cap := vpiM (by omega) (by omega)
  have q1 : upw w L (.inr (3, [.int (mc + 1), .ref D, .int n])) D = some (.inl (5, cap, qc h)) := by rw [upw_n n2]; exact hD
  have tr : ∀ b, isRow w b → isRow (upw w L (.inr (3, [.int (mc + 1), .ref D, .int n]))) b := fun b hb => isRow_up hb hL (fun z e => by cases e)
  rw [hm] at hQ
  simp only [eJx4a65c_fastRemove_b59b0_0, eJx4a65c_fastRemove_b59b0_0N, eJx4a65c_fastRemove_b59b0_1, eJx4a65c_fastRemove_b59b0_1R, eJx4a65c_fastRemove_b59b0_2, eJx4a65c_fastRemove_b59b0_5, eJx4a65c_fastRemove_b59b0_10, eJx4a65c_fastRemove_b59b0_10N, eJx4a65c_fastRemove_b59b0_11, eJx4a65c_fastRemove_b59b0_14, eJx4a65c_fastRemove_b59b0_16, eJx4a65c_fastRemove_b59b0_16R, eJx4a65c_fastRemove_b59b0_17, eJx4a65c_fastRemove_b59b0_18, ite_le, n45, n54, true_or, or_true, false_or, or_false, false_and, and_false, kx_l, kx_r, go_s, gl_s, gi_s, gb_s2, gb_s3, gq_s, wt_nil, wt_int, wt_long, wt_ref, wt_null, nl_int, nl_long, nl_ref, nl_null, nl_none, rf_n, rf_s, rf_st, tl_s, tl_n, g0, gS, ex1, nb_b, nb_0, nb_1, nf_i, nf_l, nf_ra, nf_ro, nf_na, nf_no, nf_b0, nf_z0, t45_4, t45_5, true_and, and_true, List.set_cons_zero, List.set_cons_succ, List.length_cons, List.length_nil, rd_s, upw_s, ne_eq, not_false_eq_true, Nat.zero_add, Nat.add_zero, if_true, if_false, eq_self, rL, hL, hm]
  repeat' first | with_reducible refine And.intro ?_ ?_ | omega
  split
  · next hle =>
    have hle := i32_lt hle
    have g1 : i1.toNatClampNeg + d.toNatClampNeg ≤ cap := by omega
    have g2 : i.toNatClampNeg + d.toNatClampNeg ≤ cap := by omega
    simp only [eJx4a65c_fastRemove_b59b0_22, eJx4a65c_fastRemove_b59b0_22N, eJx4a65c_fastRemove_b59b0_23, eJx4a65c_fastRemove_b59b0_26, eJx4a65c_fastRemove_b59b0_26N, eJx4a65c_fastRemove_b59b0_27, eJx4a65c_fastRemove_b59b0_31O, eJx4a65c_fastRemove_b59b0_31B, eJx4a65c_fastRemove_b59b0_34, eJx4a65c_fastRemove_b59b0_34N, eJx4a65c_fastRemove_b59b0_35, eJx4a65c_fastRemove_b59b0_35N, eJx4a65c_fastRemove_b59b0_36, eJx4a65c_fastRemove_b59b0_37IR, eJx4a65c_fastRemove_b59b0_37RR, eJx4a65c_fastRemove_b59b0_38, eJx4a65c_fastRemove_b59b0_41, eJx4a65c_fastRemove_b59b0_42N, eJx4a65c_fastRemove_b59b0_42R, eJx4a65c_fastRemove_b59b0_43, ite_le, n45, n54, true_or, or_true, false_or, or_false, false_and, and_false, kx_l, kx_r, go_s, gl_s, gi_s, gb_s2, gb_s3, gq_s, wt_nil, wt_int, wt_long, wt_ref, wt_null, nl_int, nl_long, nl_ref, nl_null, nl_none, rf_n, rf_s, rf_st, tl_s, tl_n, g0, gS, ex1, nb_b, nb_0, nb_1, nf_i, nf_l, nf_ra, nf_ro, nf_na, nf_no, nf_b0, nf_z0, t45_4, t45_5, true_and, and_true, List.set_cons_zero, List.set_cons_succ, List.length_cons, List.length_nil, rd_s, upw_s, ne_eq, not_false_eq_true, Nat.zero_add, Nat.add_zero, if_true, if_false, eq_self, hi1, hd, hL, n1, n2, upw_n, rd_n, hD, upw2q, i32_z k0, i32_z (show 0 ≤ i1.toInt by omega), i32_z (show 0 ≤ d.toInt by omega), eJx4a65c_fastRemove_b59b0_31O q1 q1]
    with_reducible refine And.intro ?_ ?_
    omega
    with_reducible refine And.intro ?_ ?_
    with_reducible assumption
    with_reducible refine And.intro ?_ ?_
    with_reducible assumption
    with_reducible refine And.intro ?_ ?_
    with_reducible exact fun j y _ hy => gl_Roww (tr _ (hr _ _ hy)) (fun _ => trivial)
    with_reducible refine And.intro ?_ ?_
    omega
    with_reducible refine And.intro ?_ ?_
    with_reducible assumption
    with_reducible refine And.intro ?_ ?_
    omega
    with_reducible refine And.intro ?_ ?_
    omega
    all_goals refine hQ _ (LPom (D' := D) (cap' := cap) (mc' := mc + 1) hL (by rw [upw_n n1]; exact upw_s _ _ _) (upw_s _ _ _) hc (by omega) (by omega) (fun a a1 a2 => by simp only [upw_n a1, upw_n a2]) (Or.inl ⟨rfl, cap, _, hD⟩) (va_up_row (cpy_row hr hr) (fun _ e => by cases e)) (HRm.mk1 (by omega) (by omega) (by omega) (by omega)))
  · next hle =>
    have hle := i32_nlt hle
    simp only [eJx4a65c_fastRemove_b59b0_34, eJx4a65c_fastRemove_b59b0_34N, eJx4a65c_fastRemove_b59b0_35, eJx4a65c_fastRemove_b59b0_35N, eJx4a65c_fastRemove_b59b0_36, eJx4a65c_fastRemove_b59b0_37IR, eJx4a65c_fastRemove_b59b0_37RR, eJx4a65c_fastRemove_b59b0_38, eJx4a65c_fastRemove_b59b0_41, eJx4a65c_fastRemove_b59b0_42N, eJx4a65c_fastRemove_b59b0_42R, eJx4a65c_fastRemove_b59b0_43, ite_le, n45, n54, true_or, or_true, false_or, or_false, false_and, and_false, kx_l, kx_r, go_s, gl_s, gi_s, gb_s2, gb_s3, gq_s, wt_nil, wt_int, wt_long, wt_ref, wt_null, nl_int, nl_long, nl_ref, nl_null, nl_none, rf_n, rf_s, rf_st, tl_s, tl_n, g0, gS, ex1, nb_b, nb_0, nb_1, nf_i, nf_l, nf_ra, nf_ro, nf_na, nf_no, nf_b0, nf_z0, t45_4, t45_5, true_and, and_true, List.set_cons_zero, List.set_cons_succ, List.length_cons, List.length_nil, rd_s, upw_s, ne_eq, not_false_eq_true, Nat.zero_add, Nat.add_zero, if_true, if_false, eq_self, rL, hL, hm, n1, n2, upw_n, rd_n, hD, upw2q]
    repeat' first | with_reducible assumption | with_reducible refine And.intro ?_ ?_ | omega
    all_goals refine hQ _ (LPom (D' := D) (cap' := cap) (mc' := mc + 1) hL (by rw [upw_n n1]; exact upw_s _ _ _) (upw_s _ _ _) hc (by omega) (by omega) (fun a a1 a2 => by rw [upw_n a2, upw_n a1]; first | done | (rw [upw_n a1])) (Or.inl ⟨rfl, cap, _, hD⟩) (va_up_row hr (fun _ e => by cases e)) (HRm.mk2 (by omega) (by omega) (by omega)))
set_option maxHeartbeats 4000000 in
theorem sJx4a65c_remove_915e3 {L D cap : Nat} {n i : Int32} {h : Nat → Option Nat} (hl : LL g w L D cap n h) (hr : ∀ i b, h i = some b → isRow w b) (k0 : 0 ≤ i.toInt) (k1 : i.toInt < n.toInt) (hN : h i.toNatClampNeg = none → ∀ w', LPo g w w' L D (n - 1) (HRm h n.toNatClampNeg i.toNatClampNeg) → Q (.inl (some .null)) w') (hR : ∀ b, h i.toNatClampNeg = some b → ∀ w', LPo g w w' L D (n - 1) (HRm h n.toNatClampNeg i.toNatClampNeg) → Q (.inl (some (.ref b))) w') : WP (MJx4a65c_remove_915e3 g) Q (0, [some (.ref L), some (.int i), none, none], [], w, 0, 0) := by
  obtain ⟨mc, hL, rL, rD, hn0, hn1, n1, n2⟩ := hl.opn
  have iv : vp_in i cap := vpiM k0 (by omega)
  have hD : w D = some (.inl (5, cap, qc h)) ∧ (cap = 10 ∨ cap = 15) := by
    rcases hl.2.1 with h2 | ⟨rfl, -⟩
    · exact h2
    · omega
  simp only [eJx4a65c_remove_915e3_0, eJx4a65c_remove_915e3_1, eJx4a65c_remove_915e3_1N, eJx4a65c_remove_915e3_2, eJx4a65c_remove_915e3_5, eJx4a65c_remove_915e3_8, eJx4a65c_remove_915e3_8R, eJx4a65c_remove_915e3_8N, eJx4a65c_remove_915e3_9, eJx4a65c_remove_915e3_9N, eJx4a65c_remove_915e3_10, eJx4a65c_remove_915e3_13, eJx4a65c_remove_915e3_13N, eJx4a65c_remove_915e3_14, eJx4a65c_remove_915e3_14N, eJx4a65c_remove_915e3_15, eJ15_checkIndex_7cf53_0, eJ15_checkIndex_7cf53_3R, eJ15_checkIndex_7cf53_3N, eJ15_checkIndex_7cf53_6, eJ3_checkIndex_8e157_0, eJ3_checkIndex_8e157_4, eJ3_checkIndex_8e157_9, eJ3_checkIndex_8e157_9N, eJ3_checkIndex_8e157_10, eJ3_checkIndex_8e157_16, ite_le, n45, n54, true_or, or_true, false_or, or_false, false_and, and_false, kx_l, kx_r, go_s, gl_s, gi_s, gb_s2, gb_s3, gq_s, wt_nil, wt_int, wt_long, wt_ref, wt_null, nl_int, nl_long, nl_ref, nl_null, nl_none, rf_n, rf_s, rf_st, tl_s, tl_n, g0, gS, ex1, nb_b, nb_0, nb_1, nf_i, nf_l, nf_ra, nf_ro, nf_na, nf_no, nf_b0, nf_z0, t45_4, t45_5, true_and, and_true, List.set_cons_zero, List.set_cons_succ, List.length_cons, List.length_nil, rd_s, upw_s, ne_eq, not_false_eq_true, Nat.zero_add, Nat.add_zero, if_true, if_false, eq_self, rL, rD, i32_z k0, i32_t k1]
  repeat' first | with_reducible assumption | with_reducible refine And.intro ?_ ?_ | omega
  · intro hh
    simp only [eJx4a65c_remove_915e3_17, eJx4a65c_remove_915e3_17N, eJx4a65c_remove_915e3_18, eJx4a65c_remove_915e3_18N, eJx4a65c_remove_915e3_19, eJx4a65c_remove_915e3_19N, eJx4a65c_remove_915e3_20, eJx4a65c_remove_915e3_21R, eJx4a65c_remove_915e3_21N, ite_le, n45, n54, true_or, or_true, false_or, or_false, false_and, and_false, kx_l, kx_r, go_s, gl_s, gi_s, gb_s2, gb_s3, gq_s, wt_nil, wt_int, wt_long, wt_ref, wt_null, nl_int, nl_long, nl_ref, nl_null, nl_none, rf_n, rf_s, rf_st, tl_s, tl_n, g0, gS, ex1, nb_b, nb_0, nb_1, nf_i, nf_l, nf_ra, nf_ro, nf_na, nf_no, nf_b0, nf_z0, t45_4, t45_5, true_and, and_true, List.set_cons_zero, List.set_cons_succ, List.length_cons, List.length_nil, rd_s, upw_s, ne_eq, not_false_eq_true, Nat.zero_add, Nat.add_zero, if_true, if_false, eq_self, rL]
    repeat' first | with_reducible refine And.intro ?_ ?_ | omega
    refine sJx4a65c_fastRemove_b59b0 hL hD.1 hD.2 hr k0 k1 hn1 (fun w' z => ?_)
    simp only [eJx4a65c_remove_915e3_24, eJx4a65c_remove_915e3_24N, eJx4a65c_remove_915e3_25, eJx4a65c_remove_915e3_25N, ite_le, n45, n54, true_or, or_true, false_or, or_false, false_and, and_false, kx_l, kx_r, go_s, gl_s, gi_s, gb_s2, gb_s3, gq_s, wt_nil, wt_int, wt_long, wt_ref, wt_null, nl_int, nl_long, nl_ref, nl_null, nl_none, rf_n, rf_s, rf_st, tl_s, tl_n, g0, gS, ex1, nb_b, nb_0, nb_1, nf_i, nf_l, nf_ra, nf_ro, nf_na, nf_no, nf_b0, nf_z0, t45_4, t45_5, true_and, and_true, List.set_cons_zero, List.set_cons_succ, List.length_cons, List.length_nil, rd_s, upw_s, ne_eq, not_false_eq_true, Nat.zero_add, Nat.add_zero, if_true, if_false]
    repeat' first | with_reducible refine And.intro ?_ ?_ | omega
    exact hN hh _ z
  · intro b hh
    simp only [eJx4a65c_remove_915e3_17, eJx4a65c_remove_915e3_17N, eJx4a65c_remove_915e3_18, eJx4a65c_remove_915e3_18N, eJx4a65c_remove_915e3_19, eJx4a65c_remove_915e3_19N, eJx4a65c_remove_915e3_20, eJx4a65c_remove_915e3_21R, eJx4a65c_remove_915e3_21N, ite_le, n45, n54, true_or, or_true, false_or, or_false, false_and, and_false, kx_l, kx_r, go_s, gl_s, gi_s, gb_s2, gb_s3, gq_s, wt_nil, wt_int, wt_long, wt_ref, wt_null, nl_int, nl_long, nl_ref, nl_null, nl_none, rf_n, rf_s, rf_st, tl_s, tl_n, g0, gS, ex1, nb_b, nb_0, nb_1, nf_i, nf_l, nf_ra, nf_ro, nf_na, nf_no, nf_b0, nf_z0, t45_4, t45_5, true_and, and_true, List.set_cons_zero, List.set_cons_succ, List.length_cons, List.length_nil, rd_s, upw_s, ne_eq, not_false_eq_true, Nat.zero_add, Nat.add_zero, if_true, if_false, eq_self, rL]
    repeat' first | with_reducible refine And.intro ?_ ?_ | omega
    refine sJx4a65c_fastRemove_b59b0 hL hD.1 hD.2 hr k0 k1 hn1 (fun w' z => ?_)
    simp only [eJx4a65c_remove_915e3_24, eJx4a65c_remove_915e3_24N, eJx4a65c_remove_915e3_25, eJx4a65c_remove_915e3_25N, ite_le, n45, n54, true_or, or_true, false_or, or_false, false_and, and_false, kx_l, kx_r, go_s, gl_s, gi_s, gb_s2, gb_s3, gq_s, wt_nil, wt_int, wt_long, wt_ref, wt_null, nl_int, nl_long, nl_ref, nl_null, nl_none, rf_n, rf_s, rf_st, tl_s, tl_n, g0, gS, ex1, nb_b, nb_0, nb_1, nf_i, nf_l, nf_ra, nf_ro, nf_na, nf_no, nf_b0, nf_z0, t45_4, t45_5, true_and, and_true, List.set_cons_zero, List.set_cons_succ, List.length_cons, List.length_nil, rd_s, upw_s, ne_eq, not_false_eq_true, Nat.zero_add, Nat.add_zero, if_true, if_false]
    repeat' first | with_reducible refine And.intro ?_ ?_ | omega
    exact hR b hh _ z
end
end
/-! 61.list5.lean.txt -/
section
section
variable {g : RO} {Q : Ot → Hw → Prop} {w0 w : Hw}
set_option maxHeartbeats 4000000 in
theorem sJx4a65c_iterator_32c93 {L D cap : Nat} {n : Int32} {h : Nat → Option Nat} (hl : LL g w L D cap n h) (hQ : ∀ q mc, w L = some (.inr (3, [.int mc, .ref D, .int n])) → rd g w q = none → Q (.inl (some (.ref q))) (upw w q (.inr (2, [.int 0, .int (-1), .int mc, .ref L])))) : WP (MJx4a65c_iterator_32c93 g) Q (0, [some (.ref L)], [], w, 0, 0) := by
  obtain ⟨mc, hL, rL, rD, hn0, hn1, n1, n2⟩ := hl.opn
  simp only [eJx4a65c_iterator_32c93_0, ite_le, n45, n54, true_or, or_true, false_or, or_false, false_and, and_false, kx_l, kx_r, go_s, gl_s, gi_s, gb_s2, gb_s3, gq_s, wt_nil, wt_int, wt_long, wt_ref, wt_null, nl_int, nl_long, nl_ref, nl_null, nl_none, rf_n, rf_s, rf_st, tl_s, tl_n, g0, gS, ex1, nb_b, nb_0, nb_1, nf_i, nf_l, nf_ra, nf_ro, nf_na, nf_no, nf_b0, nf_z0, t45_4, t45_5, true_and, and_true, List.set_cons_zero, List.set_cons_succ, List.length_cons, List.length_nil, rd_s, upw_s, ne_eq, not_false_eq_true, Nat.zero_add, Nat.add_zero, if_true, if_false, eq_self]
  repeat' first | with_reducible refine And.intro ?_ ?_ | omega
  intro q hq
  have hqn := rd_none hq
  have hqL : L ≠ q := fun e => by
    rw [← e, hL] at hqn
    cases hqn
  simp only [eJx4a65c_iterator_32c93_0, eJx4a65c_iterator_32c93_3, eJx4a65c_iterator_32c93_3R, eJx4a65c_iterator_32c93_4, eJx4a65c_iterator_32c93_4N, eJx4a65c_iterator_32c93_5R, eJx4a65c_iterator_32c93_5N, eJx4a65c_iterator_32c93_8, eJx4a65c_iterator_32c93_8N, eJx35411_init_45d68_0, eJx35411_init_45d68_0N, eJx35411_init_45d68_1, eJx35411_init_45d68_1N, eJx35411_init_45d68_2, eJx35411_init_45d68_5, eJx35411_init_45d68_5N, eJx35411_init_45d68_6, eJx35411_init_45d68_9, eJx35411_init_45d68_9N, eJx35411_init_45d68_10, eJx35411_init_45d68_14, eJx35411_init_45d68_14N, eJx35411_init_45d68_15, eJx35411_init_45d68_15N, eJx35411_init_45d68_16, eJx35411_init_45d68_19, eJx35411_init_45d68_22, eJx35411_init_45d68_25, ite_le, n45, n54, true_or, or_true, false_or, or_false, false_and, and_false, kx_l, kx_r, go_s, gl_s, gi_s, gb_s2, gb_s3, gq_s, wt_nil, wt_int, wt_long, wt_ref, wt_null, nl_int, nl_long, nl_ref, nl_null, nl_none, rf_n, rf_s, rf_st, tl_s, tl_n, g0, gS, ex1, nb_b, nb_0, nb_1, nf_i, nf_l, nf_ra, nf_ro, nf_na, nf_no, nf_b0, nf_z0, t45_4, t45_5, true_and, and_true, List.set_cons_zero, List.set_cons_succ, List.length_cons, List.length_nil, rd_s, upw_s, ne_eq, not_false_eq_true, Nat.zero_add, Nat.add_zero, if_true, if_false, eq_self, hqL, rd_n, upw_n, upw2q, rL, tyJx35411, nf_ro]
  repeat' first | with_reducible refine And.intro ?_ ?_ | omega
  all_goals first | exact trivial | exact hQ q mc hL hq
set_option maxHeartbeats 4000000 in
theorem sJx35411_hasNext_aae02 {q L D cap : Nat} {c lr mx n mc : Int32} (hq : w q = some (.inr (2, [.int c, .int lr, .int mx, .ref L]))) (hL : w L = some (.inr (3, [.int mc, .ref D, .int n]))) (h0 : c = n → Q (.inl (some (.int 0))) w) (h1 : ¬ c = n → Q (.inl (some (.int 1))) w) : WP (MJx35411_hasNext_aae02 g) Q (0, [some (.ref q)], [], w, 0, 0) := by
  have rq := rd_e (g := g) hq
  have rL := rd_e (g := g) hL
  simp only [eJx35411_hasNext_aae02_0, eJx35411_hasNext_aae02_0N, eJx35411_hasNext_aae02_1, eJx35411_hasNext_aae02_4, eJx35411_hasNext_aae02_4N, eJx35411_hasNext_aae02_5, eJx35411_hasNext_aae02_8, eJx35411_hasNext_aae02_11, ite_le, n45, n54, true_or, or_true, false_or, or_false, false_and, and_false, kx_l, kx_r, go_s, gl_s, gi_s, gb_s2, gb_s3, gq_s, wt_nil, wt_int, wt_long, wt_ref, wt_null, nl_int, nl_long, nl_ref, nl_null, nl_none, rf_n, rf_s, rf_st, tl_s, tl_n, g0, gS, ex1, nb_b, nb_0, nb_1, nf_i, nf_l, nf_ra, nf_ro, nf_na, nf_no, nf_b0, nf_z0, t45_4, t45_5, true_and, and_true, List.set_cons_zero, List.set_cons_succ, List.length_cons, List.length_nil, rd_s, upw_s, ne_eq, not_false_eq_true, Nat.zero_add, Nat.add_zero, rq, rL]
  split
  · simp only [eJx35411_hasNext_aae02_14, eJx35411_hasNext_aae02_18, eJx35411_hasNext_aae02_19, ite_le, n45, n54, true_or, or_true, false_or, or_false, false_and, and_false, kx_l, kx_r, go_s, gl_s, gi_s, gb_s2, gb_s3, gq_s, wt_nil, wt_int, wt_long, wt_ref, wt_null, nl_int, nl_long, nl_ref, nl_null, nl_none, rf_n, rf_s, rf_st, tl_s, tl_n, g0, gS, ex1, nb_b, nb_0, nb_1, nf_i, nf_l, nf_ra, nf_ro, nf_na, nf_no, nf_b0, nf_z0, t45_4, t45_5, true_and, and_true, List.set_cons_zero, List.set_cons_succ, List.length_cons, List.length_nil, rd_s, upw_s, ne_eq, not_false_eq_true, Nat.zero_add, Nat.add_zero]
    repeat' first | with_reducible refine And.intro ?_ ?_ | omega
    exact h0 (by assumption)
  · simp only [eJx35411_hasNext_aae02_14, eJx35411_hasNext_aae02_18, eJx35411_hasNext_aae02_19, ite_le, n45, n54, true_or, or_true, false_or, or_false, false_and, and_false, kx_l, kx_r, go_s, gl_s, gi_s, gb_s2, gb_s3, gq_s, wt_nil, wt_int, wt_long, wt_ref, wt_null, nl_int, nl_long, nl_ref, nl_null, nl_none, rf_n, rf_s, rf_st, tl_s, tl_n, g0, gS, ex1, nb_b, nb_0, nb_1, nf_i, nf_l, nf_ra, nf_ro, nf_na, nf_no, nf_b0, nf_z0, t45_4, t45_5, true_and, and_true, List.set_cons_zero, List.set_cons_succ, List.length_cons, List.length_nil, rd_s, upw_s, ne_eq, not_false_eq_true, Nat.zero_add, Nat.add_zero]
    repeat' first | with_reducible refine And.intro ?_ ?_ | omega
    exact h1 (by assumption)
set_option maxHeartbeats 4000000 in
theorem sJx35411_next_0502b {q L D cap : Nat} {c lr n mc : Int32} {h : Nat → Option Nat} (hq : w q = some (.inr (2, [.int c, .int lr, .int mc, .ref L]))) (hL : w L = some (.inr (3, [.int mc, .ref D, .int n]))) (rD : rd g w D = some (.inl (5, cap, qc h))) (k0 : 0 ≤ c.toInt) (k1 : c.toInt < n.toInt) (hn : n.toInt ≤ (cap : Int)) (hc : cap ≤ 15) (hN : h c.toNatClampNeg = none → Q (.inl (some .null)) (upw w q (.inr (2, [.int (c + 1), .int c, .int mc, .ref L])))) (hR : ∀ b, h c.toNatClampNeg = some b → Q (.inl (some (.ref b))) (upw w q (.inr (2, [.int (c + 1), .int c, .int mc, .ref L])))) : WP (MJx35411_next_0502b g) Q (0, [some (.ref q), none, none], [], w, 0, 0) := by
  have rq := rd_e (g := g) hq
  have rL := rd_e (g := g) hL
  have nL : L ≠ q := fun e => by
    rw [e, hq] at hL
    cases hL
  have nD : D ≠ q := fun e => by
    rw [e, rq] at rD
    cases rD
  have iv : vp_in c cap := vpiM k0 (by omega)
  have eN := ofNc (N := cap) (by omega)
  simp only [eJx35411_next_0502b_0, eJx35411_next_0502b_0N, eJx35411_next_0502b_1, eJx35411_next_0502b_4, eJx35411_next_0502b_4N, eJx35411_next_0502b_5, eJx35411_next_0502b_8, eJx35411_next_0502b_10, eJx35411_next_0502b_10N, eJx35411_next_0502b_11, eJx35411_next_0502b_14, eJx35411_next_0502b_17, eJx35411_next_0502b_23, eJx35411_next_0502b_23R, eJx35411_next_0502b_28, eJx35411_next_0502b_28N, eJx35411_next_0502b_29, eJx35411_next_0502b_32, eJx35411_next_0502b_35, eJx35411_next_0502b_35N, eJx35411_next_0502b_36, eJx35411_next_0502b_37, eJx35411_next_0502b_37N, eJx35411_next_0502b_38, eJx35411_next_0502b_39, eJx35411_next_0502b_45, eJx35411_next_0502b_45R, eJx35411_next_0502b_50, eJx35411_next_0502b_50N, eJx35411_next_0502b_51, eJx35411_next_0502b_57, eJx35411_next_0502b_57N, eJx35411_next_0502b_58, eJx35411_next_0502b_58N, eJx35411_next_0502b_59, eJx35411_next_0502b_60IR, eJx35411_next_0502b_60RR, eJx35411_next_0502b_61, eJx35411_next_0502b_64, eJx35411_next_0502b_65, eJx35411_next_0502b_65N, eJx35411_checkForComodification_da8c8_0, eJx35411_checkForComodification_da8c8_0N, eJx35411_checkForComodification_da8c8_1, eJx35411_checkForComodification_da8c8_4, eJx35411_checkForComodification_da8c8_7, eJx35411_checkForComodification_da8c8_7N, eJx35411_checkForComodification_da8c8_8, eJx35411_checkForComodification_da8c8_11, eJx35411_checkForComodification_da8c8_17, eJx35411_checkForComodification_da8c8_17R, eJx35411_checkForComodification_da8c8_22, ite_le, n45, n54, true_or, or_true, false_or, or_false, false_and, and_false, kx_l, kx_r, go_s, gl_s, gi_s, gb_s2, gb_s3, gq_s, wt_nil, wt_int, wt_long, wt_ref, wt_null, nl_int, nl_long, nl_ref, nl_null, nl_none, rf_n, rf_s, rf_st, tl_s, tl_n, g0, gS, ex1, nb_b, nb_0, nb_1, nf_i, nf_l, nf_ra, nf_ro, nf_na, nf_no, nf_b0, nf_z0, t45_4, t45_5, true_and, and_true, List.set_cons_zero, List.set_cons_succ, List.length_cons, List.length_nil, rd_s, upw_s, ne_eq, not_false_eq_true, Nat.zero_add, Nat.add_zero, if_true, if_false, eq_self, rq, hq, rL, rD, nL, nD, upw_n, rd_n, upw2q, exal2, al56, i32_t k1, i32_t (show c.toInt < (Int32.ofNat cap).toInt by omega)]
  with_reducible refine And.intro ?_ ?_
  omega
  with_reducible refine And.intro ?_ ?_
  omega
  with_reducible refine And.intro ?_ ?_
  omega
  with_reducible refine And.intro ?_ ?_
  omega
  with_reducible refine And.intro ?_ ?_
  omega
  with_reducible refine And.intro ?_ ?_
  omega
  with_reducible refine And.intro ?_ ?_
  omega
  with_reducible refine And.intro ?_ ?_
  with_reducible assumption
  with_reducible refine And.intro ?_ ?_
  with_reducible intro _
  with_reducible refine And.intro ?_ ?_
  omega
  with_reducible refine And.intro ?_ ?_
  omega
  with_reducible exact hN (by assumption)
  with_reducible intro _
  with_reducible intro _
  with_reducible refine And.intro ?_ ?_
  omega
  with_reducible refine And.intro ?_ ?_
  omega
  with_reducible exact hR _ (by assumption)
end
end
/-! 62.mod0.lean.txt -/
section
section
variable {g : RO} {Q : Ot → Hw → Prop} {w0 w : Hw}
def isMo : Ob → Bool
  | .inr (7, _) => true
  | .inr (3, _) => true
  | .inr (2, _) => true
  | .inl (5, _) => true
  | _ => false
/-- what the model leaves alone -/
def FM (g : RO) (nM : Nat) (w w' : Hw) : Prop := (∀ (a : Nat) (o : Ob), w a = some o → a ≠ nM → isMo o = false → w' a = some o) ∧ ∀ (a : Nat) (o : Ob), g.2 a = some o → w a = none → w' a = none
theorem FM.rf {nM : Nat} : FM g nM w w := ⟨fun _ _ h _ _ => h, fun _ _ _ h => h⟩
theorem FM.ext {nM : Nat} {w' : Hw} (h : FM g nM w0 w) (k : ext g w w') : FM g nM w0 w' := ⟨fun a o h1 h2 h3 => k.1 a o (h.1 a o h1 h2 h3), fun a o z1 z2 => k.2 a o z1 (h.2 a o z1 z2)⟩
theorem FM.tr {nM : Nat} {w' : Hw} (h : FM g nM w0 w) (k : FM g nM w w') : FM g nM w0 w' := ⟨fun a o h1 h2 h3 => k.1 a o (h.1 a o h1 h2 h3) h2 h3, fun a o z1 z2 => k.2 a o z1 (h.2 a o z1 z2)⟩
/-- the model's state: knocked is kd -/
def RMo (g : RO) (w : Hw) (y nM : Nat) (kd : Int32) : Prop := ∃ (cL pL D1 D2 c1 c2 : Nat) (th rf md n : Int32) (f : Nat → Int64) (h1 h2 : Nat → Option Nat), w y = some (.inr (7, [.int th, .ref nM, .ref cL, .ref pL, .int rf, .int kd, .int md])) ∧ w nM = some (.inl (0, 8, .inr (.inl f))) ∧ LL g w cL D1 c1 6 h1 ∧ (∀ i b, h1 i = some b → isRow w b) ∧ LL g w pL D2 c2 n h2 ∧ (∀ i b, h2 i = some b → isRow w b) ∧ n.toInt ≤ 12 ∧ cL ≠ pL ∧ D1 ≠ D2 ∧ ∀ i : Nat, (i : Int) < n.toInt → ∃ b, h2 i = some b
theorem LL.kp {w' : Hw} {L D cap : Nat} {n : Int32} {h : Nat → Option Nat} (hl : LL g w L D cap n h) (k1 : ∀ fs, w L = some (.inr (3, fs)) → w' L = some (.inr (3, fs))) (k2 : ∀ z, w D = some (.inl (5, z)) → w' D = some (.inl (5, z))) (k3 : ∀ o, g.2 D = some o → w D = none → w' D = none) : LL g w' L D cap n h := by
  obtain ⟨⟨mc, h1⟩, h2, h3, h4⟩ := hl
  refine ⟨⟨mc, k1 _ h1⟩, ?_, h3, h4⟩
  rcases h2 with ⟨h2, h5⟩ | ⟨h5, h6, h7, h8⟩
  · exact Or.inl ⟨k2 _ h2, h5⟩
  · exact Or.inr ⟨h5, h6, k3 _ h8 h7, h8⟩
theorem FC.ne {nA : Nat} {w' : Hw} {fA : Nat → Int64} {a : Nat} {o : Ob} (k : FC g nA w w') (hA : w nA = some (.inl (0, 8, .inr (.inl fA)))) (h : w a = some o) (ho : o ≠ .inl (0, 8, .inr (.inl fA))) (hc : isC o = false) : w' a = some o := k.1 a o h (by
  rintro rfl
  rw [hA] at h
  cases h
  exact ho rfl) hc
theorem FC.row {nA : Nat} {w' : Hw} {fA : Nat → Int64} {b : Nat} (k : FC g nA w w') (hA : w nA = some (.inl (0, 8, .inr (.inl fA)))) (h : isRow w b) : isRow w' b := by
  obtain ⟨f, h⟩ := h
  exact ⟨f, k.ne hA h (fun e => by cases e) rfl⟩
theorem RMo.FC {nA : Nat} {w' : Hw} {fA : Nat → Int64} {y nM : Nat} {kd : Int32} (h : RMo g w y nM kd) (k : FC g nA w w') (hA : w nA = some (.inl (0, 8, .inr (.inl fA)))) (hne : nM ≠ nA) : RMo g w' y nM kd := by
  obtain ⟨cL, pL, D1, D2, c1, c2, th, rf, md, n, f, h1, h2, a1, a2, a3, a4, a5, a6, a7⟩ := h
  have ll : ∀ {L D cap : Nat} {n : Int32} {h : Nat → Option Nat}, LL g w L D cap n h → LL g w' L D cap n h := fun hl => hl.kp (fun fs e => k.ne hA e (fun e => by cases e) rfl) (fun z e => k.ne hA e (fun e => by cases e) rfl) (fun o e1 e2 => k.2 _ o e1 e2)
  exact ⟨cL, pL, D1, D2, c1, c2, th, rf, md, n, f, h1, h2, k.ne hA a1 (fun e => by cases e) rfl, k.1 _ _ a2 hne rfl, ll a3, fun i b z => k.row hA (a4 i b z), ll a5, fun i b z => k.row hA (a6 i b z), a7⟩
theorem RC.FM {nM : Nat} {w' : Hw} {x nA cA lA : Nat} {kn : Int32} (h : RC w x nA cA lA kn) (k : FM g nM w w') (hM : ∃ f : Nat → Int64, w nM = some (.inl (0, 8, .inr (.inl f)))) (hne : nA ≠ nM) : RC w' x nA cA lA kn := by
  obtain ⟨fM, hM⟩ := hM
  have kk : ∀ (a : Nat) (o : Ob), w a = some o → o ≠ .inl (0, 8, .inr (.inl fM)) → isMo o = false → w' a = some o := fun a o h ho hc => k.1 a o h (by
    rintro rfl
    rw [hM] at h
    cases h
    exact ho rfl) hc
  have rr : ∀ b, isR w b → isR w' b := fun b hb => by
    obtain ⟨r0, r1, r2, r3, hb⟩ := hb
    exact ⟨r0, r1, r2, r3, kk _ _ hb (fun e => by cases e) rfl⟩
  obtain ⟨n, rf, md, f, gc, gl, h1, h2, h3, h4, h5, h6, h7⟩ := h
  exact ⟨n, rf, md, f, gc, gl, kk _ _ h1 (fun e => by cases e) rfl, k.1 _ _ h2 hne rfl, kk _ _ h3 (fun e => by cases e) rfl, kk _ _ h4 (fun e => by cases e) rfl, fun i b z => rr b (h5 i b z), fun i b z => rr b (h6 i b z), h7⟩
/-- the model's state at w, come from w0 -/
def MM (g : RO) (w0 : Hw) (y nM : Nat) (kd : Int32) (w : Hw) : Prop := RMo g w y nM kd ∧ FM g nM w0 w
theorem ne_of {a b : Nat} {o1 o2 : Ob} (h1 : w a = some o1) (h2 : w b = some o2) (h : o1 ≠ o2) : a ≠ b := fun e => by
  rw [e, h2] at h1
  cases h1
  exact h rfl
theorem LL.up {L D cap a : Nat} {n : Int32} {h : Nat → Option Nat} {o1 o2 : Ob} (hl : LL g w L D cap n h) (ha : w a = some o1) (h3 : ∀ fs, o1 ≠ .inr (3, fs)) (h5 : ∀ z, o1 ≠ .inl (5, z)) : LL g (upw w a o2) L D cap n h := hl.kp (fun fs e => by
    rw [upw_n (ne_of e ha (fun z => h3 fs z.symm))]
    exact e) (fun z e => by
    rw [upw_n (ne_of e ha (fun q => h5 z q.symm))]
    exact e) (fun o _ e => by
    rw [upw_n]
    · exact e
    · rintro rfl
      rw [ha] at e
      cases e)
theorem FM.up {nM a : Nat} {o1 o2 : Ob} (h : FM g nM w0 w) (ha : w a = some o1) (h2 : a = nM ∨ isMo o1 = true) : FM g nM w0 (upw w a o2) := by
  refine ⟨fun b o e1 e2 e3 => ?_, fun b o e1 e2 => ?_⟩
  · have e4 := h.1 b o e1 e2 e3
    rw [upw_n]
    · exact e4
    · rintro rfl
      rcases h2 with rfl | h2
      · exact e2 rfl
      · rw [ha] at e4
        cases e4
        rw [e3] at h2
        cases h2
  · have e4 := h.2 b o e1 e2
    rw [upw_n]
    · exact e4
    · rintro rfl
      rw [ha] at e4
      cases e4
/-- its own numbers set -/
theorem RMo.set {y nM cL pL : Nat} {kd kd' th' rf' md' th0 rf0 md0 : Int32} (h : RMo g w y nM kd) (hy : w y = some (.inr (7, [.int th0, .ref nM, .ref cL, .ref pL, .int rf0, .int kd, .int md0]))) : RMo g (upw w y (.inr (7, [.int th', .ref nM, .ref cL, .ref pL, .int rf', .int kd', .int md']))) y nM kd' := by
  obtain ⟨cL1, pL1, D1, D2, c1, c2, th, rf, md, n, f, h1, h2, a1, a2, a3, a4, a5, a6, a7⟩ := h
  rw [hy] at a1
  cases a1
  exact ⟨cL, pL, D1, D2, c1, c2, th', rf', md', n, f, h1, h2, upw_s _ _ _, by rw [upw_n (ne_of a2 hy (fun e => by cases e))]; exact a2, a3.up hy (fun _ e => by cases e) (fun _ e => by cases e), fun i b z => isRow_up (a4 i b z) hy (fun _ e => by cases e), a5.up hy (fun _ e => by cases e) (fun _ e => by cases e), fun i b z => isRow_up (a6 i b z) hy (fun _ e => by cases e), a7⟩
theorem RMo.num {y nM : Nat} {kd : Int32} {f f' : Nat → Int64} (h : RMo g w y nM kd) (hn : w nM = some (.inl (0, 8, .inr (.inl f)))) : RMo g (upw w nM (.inl (0, 8, .inr (.inl f')))) y nM kd := by
  obtain ⟨cL, pL, D1, D2, c1, c2, th, rf, md, n, f, h1, h2, a1, a2, a3, a4, a5, a6, a7⟩ := h
  exact ⟨cL, pL, D1, D2, c1, c2, th, rf, md, n, f', h1, h2, by rw [upw_n (ne_of a1 hn (fun e => by cases e))]; exact a1, upw_s _ _ _, a3.up hn (fun _ e => by cases e) (fun _ e => by cases e), fun i b z => isRow_up (a4 i b z) hn (fun _ e => by cases e), a5.up hn (fun _ e => by cases e) (fun _ e => by cases e), fun i b z => isRow_up (a6 i b z) hn (fun _ e => by cases e), a7⟩
theorem RMo.opn {y nM : Nat} {kd : Int32} (g : RO) (h : RMo g w y nM kd) : ∃ (cL pL D1 D2 c1 c2 : Nat) (th rf md n : Int32) (f : Nat → Int64) (h1 h2 : Nat → Option Nat), w y = some (.inr (7, [.int th, .ref nM, .ref cL, .ref pL, .int rf, .int kd, .int md])) ∧ w nM = some (.inl (0, 8, .inr (.inl f))) ∧ rd g w y = some (.inr (7, [.int th, .ref nM, .ref cL, .ref pL, .int rf, .int kd, .int md])) ∧ rd g w nM = some (.inl (0, 8, .inr (.inl f))) ∧ y ≠ nM ∧ nM ≠ y ∧ LL g w cL D1 c1 6 h1 ∧ (∀ i b, h1 i = some b → isRow w b) ∧ LL g w pL D2 c2 n h2 ∧ (∀ i b, h2 i = some b → isRow w b) ∧ n.toInt ≤ 12 ∧ cL ≠ pL ∧ D1 ≠ D2 ∧ ∀ i : Nat, (i : Int) < n.toInt → ∃ b, h2 i = some b := by
  obtain ⟨cL, pL, D1, D2, c1, c2, th, rf, md, n, f, h1, h2, a1, a2, a3, a4, a5, a6, a7⟩ := h
  have ne := ne_of a1 a2 (fun e => by cases e)
  exact ⟨cL, pL, D1, D2, c1, c2, th, rf, md, n, f, h1, h2, a1, a2, rd_e a1, rd_e a2, ne, ne.symm, a3, a4, a5, a6, a7⟩
theorem MM.set {y nM cL pL : Nat} {kd kd' th' rf' md' th0 rf0 md0 : Int32} (h : MM g w0 y nM kd w) (hy : w y = some (.inr (7, [.int th0, .ref nM, .ref cL, .ref pL, .int rf0, .int kd, .int md0]))) : MM g w0 y nM kd' (upw w y (.inr (7, [.int th', .ref nM, .ref cL, .ref pL, .int rf', .int kd', .int md']))) := ⟨h.1.set hy, h.2.up hy (Or.inr rfl)⟩
theorem MM.num {y nM : Nat} {kd : Int32} {f f' : Nat → Int64} (h : MM g w0 y nM kd w) (hn : w nM = some (.inl (0, 8, .inr (.inl f)))) : MM g w0 y nM kd (upw w nM (.inl (0, 8, .inr (.inl f')))) := ⟨h.1.num hn, h.2.up hn (Or.inl rfl)⟩
end
end
/-! 62.mod1.lean.txt -/
section
section
variable {g : RO} {Q : Ot → Hw → Prop} {w0 w : Hw}
variable {y nM : Nat} {kd : Int32}
theorem m10 : ((1 : Int32) = 0) = False := eq_false (by decide)
/-- .. and thrown is 0 -/
def MMz (g : RO) (w0 : Hw) (y nM : Nat) (kd : Int32) (w : Hw) : Prop := MM g w0 y nM kd w ∧ ∃ (cL pL : Nat) (rf md : Int32), w y = some (.inr (7, [.int 0, .ref nM, .ref cL, .ref pL, .int rf, .int kd, .int md]))
end
end
/-! 62.mod2.lean.txt -/
section
section
variable {g : RO} {Q : Ot → Hw → Prop} {w0 w : Hw}
variable {y nM : Nat} {kd : Int32}
theorem MMz.m (h : MMz g w0 y nM kd w) : MM g w0 y nM kd w := h.1
theorem gl_M {K : Nat → (Nat → Int64) → Prop} (h : MM g w0 y nM kd w) (k : ∀ f, K 8 f) : gl (rd g w nM) 0 K := by
  obtain ⟨cL, pL, D1, D2, c1, c2, th, rf, md, n, f, h1, h2, hy, hn, ry, rn, -⟩ := h.1.opn g
  rw [rn, gl_s]
  exact k _
theorem vpi8n {a : Int32} (h0 : ¬ a < 0) (h1 : ¬ 7 < a) : vp_in a 8 := vpiM (i32_0 h0) (by
  have h := i32_nlt h1
  have e : (7 : Int32).toInt = 7 := rfl
  omega)
theorem vpi6n {a : Int32} (h0 : ¬ a < 0) (h1 : ¬ 5 < a) : vp_in a 6 := vpiM (i32_0 h0) (by
  have h := i32_nlt h1
  have e : (5 : Int32).toInt = 5 := rfl
  omega)
theorem ite_cs {c : Prop} [Decidable c] {A B : Prop} (h1 : A) (h2 : B) : if c then A else B := by split <;> assumption
theorem n4g : (¬ (4294967296 : Int64) = 0) := by decide
theorem n4a : ¬ (4 : Int32) < 0 := by decide
theorem n10' : ¬ (1 : Int32) = 0 := by decide
set_option maxHeartbeats 4000000 in
theorem sX3_high {a : Int64} (hQ : ∀ v : Int32, Q (.inl (some (.int v))) w) : WP (MX3_high g) Q (0, [some (.long a), none], [], w, 0, 0) := by
  simp only [eX3_high_0, eX3_high_6, eX3_high_14, eX3_high_19]
  with_reducible refine And.intro ?_ ?_
  with_reducible exact n4g
  with_reducible refine And.intro ?_ ?_
  with_reducible exact n4g
  with_reducible refine And.intro ?_ ?_
  with_reducible exact n4g
  with_reducible refine And.intro ?_ ?_
  omega
  with_reducible refine And.intro ?_ ?_
  omega
  with_reducible exact hQ _
set_option maxHeartbeats 4000000 in
theorem sX3_low {a : Int64} (hQ : ∀ v : Int32, Q (.inl (some (.int v))) w) : WP (MX3_low g) Q (0, [some (.long a), none, none, none], [], w, 0, 0) := by
  simp only [eX3_low_0, eX3_low_5, eX3_low_13, eX3_low_22, eX3_low_30, eX3_low_31, ite_le, nl_none]
  with_reducible refine And.intro ?_ ?_
  with_reducible exact n4g
  with_reducible refine And.intro ?_ ?_
  with_reducible exact n4g
  with_reducible refine ite_cs ?_ ?_
  with_reducible refine And.intro ?_ ?_
  omega
  with_reducible refine And.intro ?_ ?_
  omega
  with_reducible exact hQ _
  with_reducible refine And.intro ?_ ?_
  omega
  with_reducible refine And.intro ?_ ?_
  omega
  with_reducible exact hQ _
set_option maxHeartbeats 4000000 in
theorem sX3_one {a : Int32} (hQ : ∀ v : Int32, Q (.inl (some (.int v))) w) : WP (MX3_one g) Q (0, [some (.int a)], [], w, 0, 0) := by
  simp only [eX3_one_0, eX3_one_4, eX3_one_8, eX3_one_9]
  with_reducible refine ite_cs ?_ ?_
  with_reducible refine And.intro ?_ ?_
  omega
  with_reducible refine And.intro ?_ ?_
  omega
  with_reducible exact hQ _
  with_reducible refine And.intro ?_ ?_
  omega
  with_reducible refine And.intro ?_ ?_
  omega
  with_reducible exact hQ _
end
end
/-! 62.mod3.lean.txt -/
section
section
variable {g : RO} {Q : Ot → Hw → Prop} {w0 w : Hw}
variable {y nM : Nat} {kd : Int32}
theorem vpi4 : vp_in 0 4 ∧ vp_in 1 4 ∧ vp_in 2 4 ∧ vp_in 3 4 := ⟨vpiM (by decide) (by decide), vpiM (by decide) (by decide), vpiM (by decide) (by decide), vpiM (by decide) (by decide)⟩
theorem MM.ext' {w' : Hw} (h : MM g w0 y nM kd w) (k : ext g w w') : MM g w0 y nM kd w' := by
  obtain ⟨cL, pL, D1, D2, c1, c2, th, rf, md, n, f, h1, h2, a1, a2, a3, a4, a5, a6, a7⟩ := h.1
  have ll : ∀ {L D cap : Nat} {n : Int32} {h : Nat → Option Nat}, LL g w L D cap n h → LL g w' L D cap n h := fun hl => hl.kp (fun fs e => k.1 _ _ e) (fun z e => k.1 _ _ e) (fun o e1 e2 => k.2 _ o e1 e2)
  exact ⟨⟨cL, pL, D1, D2, c1, c2, th, rf, md, n, f, h1, h2, k.1 _ _ a1, k.1 _ _ a2, ll a3, fun i b z => (a4 i b z).ext k, ll a5, fun i b z => (a6 i b z).ext k, a7⟩, h.2.ext k⟩
theorem MM.fr {q : Nat} {o : Ob} (h : MM g w0 y nM kd w) (hq : rd g w q = none) : MM g w0 y nM kd (upw w q o) := h.ext' (ext_up2 ext.rf hq)
set_option maxHeartbeats 4000000 in
theorem sX3_fixed {p : Nat} (hp : isRow w p) (h1 : Q (.inl (some (.int 1))) w) (h0 : Q (.inl (some (.int 0))) w) : WP (MX3_fixed g) Q (0, [some (.ref p)], [], w, 0, 0) := by
  simp only [eX3_fixed_0, eX3_fixed_3, eX3_fixed_6, eX3_fixed_10, eX3_fixed_13, eX3_fixed_16, eX3_fixed_20, eX3_fixed_24, eX3_fixed_25, nb_0, nb_1, true_and]
  with_reducible refine gl_Row (by assumption) (fun _ => ?_)
  with_reducible refine And.intro ?_ ?_
  with_reducible exact vpi4.1
  with_reducible refine gl_Row (by assumption) (fun _ => ?_)
  with_reducible refine And.intro ?_ ?_
  with_reducible exact vpi4.2.1
  split
  with_reducible refine gl_Row (by assumption) (fun _ => ?_)
  with_reducible refine And.intro ?_ ?_
  with_reducible exact vpi4.2.2.1
  with_reducible refine gl_Row (by assumption) (fun _ => ?_)
  with_reducible refine And.intro ?_ ?_
  with_reducible exact vpi4.2.2.2
  split
  with_reducible refine And.intro ?_ ?_
  omega
  with_reducible refine And.intro ?_ ?_
  omega
  with_reducible assumption
  with_reducible refine And.intro ?_ ?_
  omega
  with_reducible refine And.intro ?_ ?_
  omega
  with_reducible assumption
  with_reducible refine And.intro ?_ ?_
  omega
  with_reducible refine And.intro ?_ ?_
  omega
  with_reducible assumption
set_option maxHeartbeats 4000000 in
theorem sX3_small {p : Nat} (hp : isRow w p) (h1 : Q (.inl (some (.int 1))) w) (h0 : Q (.inl (some (.int 0))) w) : WP (MX3_small g) Q (0, [some (.ref p)], [], w, 0, 0) := by
  simp only [eX3_small_0, eX3_small_3, eX3_small_10, eX3_small_13, eX3_small_20, eX3_small_24, eX3_small_25, nb_0, nb_1, true_and]
  with_reducible refine gl_Row (by assumption) (fun _ => ?_)
  with_reducible refine And.intro ?_ ?_
  with_reducible exact vpi4.1
  split
  with_reducible refine And.intro ?_ ?_
  omega
  with_reducible refine And.intro ?_ ?_
  omega
  with_reducible assumption
  with_reducible refine gl_Row (by assumption) (fun _ => ?_)
  with_reducible refine And.intro ?_ ?_
  with_reducible exact vpi4.2.2.2
  split
  with_reducible refine And.intro ?_ ?_
  omega
  with_reducible refine And.intro ?_ ?_
  omega
  with_reducible assumption
  with_reducible refine And.intro ?_ ?_
  omega
  with_reducible refine And.intro ?_ ?_
  omega
  with_reducible assumption
set_option maxHeartbeats 4000000 in
theorem sX3_valid {p : Nat} {a : Int64} {b : Int32} (hp : isRow w p) (h1 : Q (.inl (some (.int 1))) w) (h0 : Q (.inl (some (.int 0))) w) : WP (MX3_valid g) Q (0, [some (.ref p), some (.long a), none, some (.int b)], [], w, 0, 0) := by
  simp only [eX3_valid_0, eX3_valid_4, eX3_valid_8, eX3_valid_12, eX3_valid_16, eX3_valid_20, eX3_valid_27, eX3_valid_31, eX3_valid_32, wt_nil, nb_0, nb_1, true_and, Nat.add_zero]
  with_reducible refine gl_Row (by assumption) (fun _ => ?_)
  with_reducible refine And.intro ?_ ?_
  with_reducible exact vpi4.1
  split
  with_reducible refine And.intro ?_ ?_
  omega
  with_reducible refine And.intro ?_ ?_
  omega
  with_reducible assumption
  with_reducible refine gl_Row (by assumption) (fun _ => ?_)
  with_reducible refine And.intro ?_ ?_
  with_reducible exact vpi4.2.2.2
  split
  with_reducible refine And.intro ?_ ?_
  omega
  with_reducible refine And.intro ?_ ?_
  omega
  with_reducible assumption
  split
  with_reducible refine And.intro ?_ ?_
  omega
  with_reducible refine And.intro ?_ ?_
  omega
  with_reducible assumption
  with_reducible refine And.intro ?_ ?_
  omega
  with_reducible refine And.intro ?_ ?_
  omega
  with_reducible refine And.intro ?_ ?_
  omega
  with_reducible refine sX3_small (by assumption) ?_ ?_
  simp only [eX3_valid_24, eX3_valid_27, eX3_valid_31, eX3_valid_32, kx_l, tl_s, nb_0, nb_1, true_and]
  split
  with_reducible refine And.intro ?_ ?_
  omega
  with_reducible refine And.intro ?_ ?_
  omega
  with_reducible assumption
  with_reducible refine And.intro ?_ ?_
  omega
  with_reducible refine And.intro ?_ ?_
  omega
  with_reducible assumption
  simp only [eX3_valid_24, eX3_valid_27, eX3_valid_31, eX3_valid_32, kx_l, tl_s, nb_0, nb_1, true_and, if_true]
  with_reducible refine And.intro ?_ ?_
  omega
  with_reducible refine And.intro ?_ ?_
  omega
  with_reducible assumption
set_option maxHeartbeats 4000000 in
theorem sX3_add {a b : Int64} (hQ : ∀ v : Int64, Q (.inl (some (.long v))) w) : WP (MX3_add g) Q (0, [some (.long a), none, some (.long b), none], [], w, 0, 0) := by
  simp only [eX3_add_0]
  with_reducible refine And.intro ?_ ?_
  omega
  with_reducible refine And.intro ?_ ?_
  omega
  with_reducible exact hQ _
set_option maxHeartbeats 4000000 in
theorem sX3_whichNow {p : Nat} {a : Int32} (hp : isRow w p) (hQ : ∀ v : Int32, Q (.inl (some (.int v))) w) : WP (MX3_whichNow g) Q (0, [some (.ref p), some (.int a)], [], w, 0, 0) := by
  simp only [eX3_whichNow_0, wt_nil, Nat.add_zero]
  with_reducible refine And.intro ?_ ?_
  omega
  with_reducible refine And.intro ?_ ?_
  omega
  with_reducible refine And.intro ?_ ?_
  omega
  with_reducible refine sX3_valid (by assumption) ?_ ?_
  simp only [eX3_whichNow_7, eX3_whichNow_10, kx_l, wt_nil, tl_s, Nat.add_zero]
  with_reducible refine And.intro ?_ ?_
  omega
  with_reducible refine And.intro ?_ ?_
  omega
  with_reducible refine And.intro ?_ ?_
  omega
  with_reducible refine sX3_one (fun _ => ?_)
  simp only [kx_l, wt_nil, wt_int, tl_s, Nat.add_zero]
  with_reducible refine And.intro ?_ ?_
  omega
  with_reducible refine And.intro ?_ ?_
  omega
  with_reducible refine And.intro ?_ ?_
  omega
  with_reducible refine sX3_valid (by assumption) ?_ ?_
  simp only [eX3_whichNow_17, kx_l, wt_nil, wt_int, tl_s, Nat.add_zero]
  with_reducible refine And.intro ?_ ?_
  omega
  with_reducible refine And.intro ?_ ?_
  omega
  with_reducible refine And.intro ?_ ?_
  omega
  with_reducible refine sX3_one (fun _ => ?_)
  simp only [eX3_whichNow_20, kx_l, tl_s]
  with_reducible refine And.intro ?_ ?_
  omega
  with_reducible refine And.intro ?_ ?_
  omega
  with_reducible exact hQ _
  simp only [eX3_whichNow_17, kx_l, wt_nil, wt_int, tl_s, Nat.add_zero]
  with_reducible refine And.intro ?_ ?_
  omega
  with_reducible refine And.intro ?_ ?_
  omega
  with_reducible refine And.intro ?_ ?_
  omega
  with_reducible refine sX3_one (fun _ => ?_)
  simp only [eX3_whichNow_20, kx_l, tl_s]
  with_reducible refine And.intro ?_ ?_
  omega
  with_reducible refine And.intro ?_ ?_
  omega
  with_reducible exact hQ _
  simp only [eX3_whichNow_7, eX3_whichNow_10, kx_l, wt_nil, tl_s, Nat.add_zero]
  with_reducible refine And.intro ?_ ?_
  omega
  with_reducible refine And.intro ?_ ?_
  omega
  with_reducible refine And.intro ?_ ?_
  omega
  with_reducible refine sX3_one (fun _ => ?_)
  simp only [kx_l, wt_nil, wt_int, tl_s, Nat.add_zero]
  with_reducible refine And.intro ?_ ?_
  omega
  with_reducible refine And.intro ?_ ?_
  omega
  with_reducible refine And.intro ?_ ?_
  omega
  with_reducible refine sX3_valid (by assumption) ?_ ?_
  simp only [eX3_whichNow_17, kx_l, wt_nil, wt_int, tl_s, Nat.add_zero]
  with_reducible refine And.intro ?_ ?_
  omega
  with_reducible refine And.intro ?_ ?_
  omega
  with_reducible refine And.intro ?_ ?_
  omega
  with_reducible refine sX3_one (fun _ => ?_)
  simp only [eX3_whichNow_20, kx_l, tl_s]
  with_reducible refine And.intro ?_ ?_
  omega
  with_reducible refine And.intro ?_ ?_
  omega
  with_reducible exact hQ _
  simp only [eX3_whichNow_17, kx_l, wt_nil, wt_int, tl_s, Nat.add_zero]
  with_reducible refine And.intro ?_ ?_
  omega
  with_reducible refine And.intro ?_ ?_
  omega
  with_reducible refine And.intro ?_ ?_
  omega
  with_reducible refine sX3_one (fun _ => ?_)
  simp only [eX3_whichNow_20, kx_l, tl_s]
  with_reducible refine And.intro ?_ ?_
  omega
  with_reducible refine And.intro ?_ ?_
  omega
  with_reducible exact hQ _
end
end
/-! 62.mod4.lean.txt -/
section
section
variable {g : RO} {Q : Ot → Hw → Prop} {w0 w : Hw}
variable {y nM : Nat} {kd : Int32}
/-- place i of the cards: v -/
def CAt (g : RO) (w : Hw) (y : Nat) (i : Int32) (v : Option Nat) : Prop := ∃ (nM cL pL D c : Nat) (th rf kd md : Int32) (h : Nat → Option Nat), w y = some (.inr (7, [.int th, .ref nM, .ref cL, .ref pL, .int rf, .int kd, .int md])) ∧ LL g w cL D c 6 h ∧ (∀ i b, h i = some b → isRow w b) ∧ h i.toNatClampNeg = v
theorem CAt.ofM {i : Int32} (h : MM g w0 y nM kd w) : ∃ v, CAt g w y i v := by
  obtain ⟨cL, pL, D1, D2, c1, c2, th, rf, md, n, f, h1, h2, a1, a2, a3, a4, a5, a6, a7⟩ := h.1
  exact ⟨_, nM, cL, pL, D1, c1, th, rf, kd, md, h1, a1, a3, a4, rfl⟩
/-- it stands where the object's numbers are set -/
theorem CAt.set {i : Int32} {v : Option Nat} {nM' cL pL : Nat} {th rf md th' rf' md' kd' : Int32} (h : CAt g w y i v) (hy : w y = some (.inr (7, [.int th, .ref nM', .ref cL, .ref pL, .int rf, .int kd, .int md]))) : CAt g (upw w y (.inr (7, [.int th', .ref nM', .ref cL, .ref pL, .int rf', .int kd', .int md']))) y i v := by
  obtain ⟨nM1, cL1, pL1, D, c, th1, rf1, kd1, md1, hh, a1, a2, a3, a4⟩ := h
  rw [hy] at a1
  cases a1
  exact ⟨_, _, _, D, c, _, _, _, _, hh, upw_s _ _ _, a2.up hy (fun _ e => by cases e) (fun _ e => by cases e), fun i b z => isRow_up (a3 i b z) hy (fun _ e => by cases e), a4⟩
theorem CAt.fr {i : Int32} {v : Option Nat} {q : Nat} {o : Ob} (h : CAt g w y i v) (hq : rd g w q = none) : CAt g (upw w q o) y i v := by
  obtain ⟨nM1, cL1, pL1, D, c, th1, rf1, kd1, md1, hh, a1, a2, a3, a4⟩ := h
  have k : ext g w (upw w q o) := ext_up2 ext.rf hq
  exact ⟨_, _, _, D, c, _, _, _, _, hh, k.1 _ _ a1, a2.kp (fun fs e => k.1 _ _ e) (fun z e => k.1 _ _ e) (fun o e1 e2 => k.2 _ o e1 e2), fun i b z => (a3 i b z).ext k, a4⟩
theorem CAt.row {i : Int32} {b : Nat} (h : CAt g w y i (some b)) : isRow w b := by
  obtain ⟨nM1, cL1, pL1, D, c, th1, rf1, kd1, md1, hh, a1, a2, a3, a4⟩ := h
  exact a3 _ _ a4
theorem lt6 {a : Int32} (h1 : ¬ 5 < a) : a.toInt < (6 : Int32).toInt := by
  have h := i32_nlt h1
  have e : (5 : Int32).toInt = 5 := rfl
  have e6 : (6 : Int32).toInt = 6 := rfl
  omega
set_option maxHeartbeats 4000000 in
theorem sX3_isBare {a : Int32} {v : Option Nat} (hC : CAt g w y a v) (k0 : ¬ a < 0) (k1 : ¬ 5 < a) (h1 : v = none → Q (.inl (some (.int 1))) w) (h0 : ∀ b, v = some b → Q (.inl (some (.int 0))) w) : WP (MX3_isBare g) Q (0, [some (.ref y), some (.int a)], [], w, 0, 0) := by
  obtain ⟨nM1, cL1, pL1, D, c, th1, rf1, kd1, md1, hh, a1, a2, a3, a4⟩ := hC
  have ry := rd_e (g := g) a1
  obtain ⟨mc, hL, rL, rD, -⟩ := a2.opn
  subst a4
  simp only [eX3_isBare_0, eX3_isBare_0N, eX3_isBare_1, eX3_isBare_4, eX3_isBare_5, ite_le, n45, n54, true_or, or_true, false_or, or_false, false_and, and_false, kx_l, kx_r, go_s, gl_s, gi_s, gb_s2, gb_s3, gq_s, wt_nil, wt_int, wt_long, wt_ref, wt_null, nl_int, nl_long, nl_ref, nl_null, nl_none, rf_n, rf_s, rf_st, tl_s, tl_n, g0, gS, ex1, nb_b, nb_0, nb_1, nf_i, nf_l, nf_ra, nf_ro, nf_na, nf_no, nf_b0, nf_z0, t45_4, t45_5, true_and, and_true, List.set_cons_zero, List.set_cons_succ, List.length_cons, List.length_nil, rd_s, upw_s, ne_eq, not_false_eq_true, Nat.zero_add, Nat.add_zero, ry, rL]
  repeat' first | with_reducible refine And.intro ?_ ?_ | omega
  refine sJx4a65c_get a2 (i32_0 k0) (lt6 k1) (fun e => ?_) (fun b e => ?_)
  · simp only [eX3_isBare_0, eX3_isBare_0N, eX3_isBare_1, eX3_isBare_4, eX3_isBare_5, eX3_isBare_8R, eX3_isBare_8N, eX3_isBare_11, eX3_isBare_15, eX3_isBare_16, ite_le, n45, n54, true_or, or_true, false_or, or_false, false_and, and_false, kx_l, kx_r, go_s, gl_s, gi_s, gb_s2, gb_s3, gq_s, wt_nil, wt_int, wt_long, wt_ref, wt_null, nl_int, nl_long, nl_ref, nl_null, nl_none, rf_n, rf_s, rf_st, tl_s, tl_n, g0, gS, ex1, nb_b, nb_0, nb_1, nf_i, nf_l, nf_ra, nf_ro, nf_na, nf_no, nf_b0, nf_z0, t45_4, t45_5, true_and, and_true, List.set_cons_zero, List.set_cons_succ, List.length_cons, List.length_nil, rd_s, upw_s, ne_eq, not_false_eq_true, Nat.zero_add, Nat.add_zero, if_true, if_false, eq_self]
    repeat' first | with_reducible refine And.intro ?_ ?_ | omega
    exact h1 e
  · simp only [eX3_isBare_0, eX3_isBare_0N, eX3_isBare_1, eX3_isBare_4, eX3_isBare_5, eX3_isBare_8R, eX3_isBare_8N, eX3_isBare_11, eX3_isBare_15, eX3_isBare_16, ite_le, n45, n54, true_or, or_true, false_or, or_false, false_and, and_false, kx_l, kx_r, go_s, gl_s, gi_s, gb_s2, gb_s3, gq_s, wt_nil, wt_int, wt_long, wt_ref, wt_null, nl_int, nl_long, nl_ref, nl_null, nl_none, rf_n, rf_s, rf_st, tl_s, tl_n, g0, gS, ex1, nb_b, nb_0, nb_1, nf_i, nf_l, nf_ra, nf_ro, nf_na, nf_no, nf_b0, nf_z0, t45_4, t45_5, true_and, and_true, List.set_cons_zero, List.set_cons_succ, List.length_cons, List.length_nil, rd_s, upw_s, ne_eq, not_false_eq_true, Nat.zero_add, Nat.add_zero, if_true, if_false, eq_self]
    repeat' first | with_reducible refine And.intro ?_ ?_ | omega
    exact h0 b e
end
end
/-! 62.mod5.lean.txt -/
section
section
variable {g : RO} {Q : Ot → Hw → Prop} {w0 w : Hw}
variable {y nM : Nat} {kd : Int32}
theorem sX3_isBareM {a : Int32} (hM : MM g w0 y nM kd w) (k0 : ¬ a < 0) (k1 : ¬ 5 < a) (h1 : Q (.inl (some (.int 1))) w) (h0 : ∀ b, CAt g w y a (some b) → Q (.inl (some (.int 0))) w) : WP (MX3_isBare g) Q (0, [some (.ref y), some (.int a)], [], w, 0, 0) := by
  obtain ⟨v, hv⟩ := CAt.ofM (i := a) hM
  exact sX3_isBare hv k0 k1 (fun _ => h1) (fun b e => h0 b (e ▸ hv))
end
end
/-! 62.mod6.lean.txt -/
section
section
variable {g : RO} {Q : Ot → Hw → Prop} {w0 w : Hw}
variable {y nM : Nat} {kd : Int32}
theorem sGetC {L D cap b : Nat} {i : Int32} {h : Nat → Option Nat} (hl : LL g w L D cap 6 h) (hv : h i.toNatClampNeg = some b) (k0 : ¬ i < 0) (k1 : ¬ 5 < i) (hQ : Q (.inl (some (.ref b))) w) : WP (MJx4a65c_get_915e3 g) Q (0, [some (.ref L), some (.int i)], [], w, 0, 0) := sJx4a65c_get hl (i32_0 k0) (lt6 k1) (fun e => by
  rw [hv] at e
  cases e) (fun c e => by
  rw [hv] at e
  cases e
  exact hQ)
theorem LL.gt {L D cap : Nat} {n : Int32} {h : Nat → Option Nat} (hl : LL g w L D cap n h) : go (rd g w L) 3 fun _ => True := by
  obtain ⟨mc, hL, rL, -⟩ := hl.opn
  rw [rL, go_s]
  trivial
theorem isRow.ca {b : Nat} (h : isRow w b) : ∃ x, w b = some (.inl (0, x)) := by
  obtain ⟨f, h⟩ := h
  exact ⟨_, h⟩
end
end
/-! 62.mod8.lean.txt -/
section
section
variable {g : RO} {Q : Ot → Hw → Prop} {w0 w : Hw}
variable {y nM : Nat} {kd : Int32}
/-- the object's parts -/
def isY (w : Hw) (y nM cL pL : Nat) : Prop := ∃ th rf kd md : Int32, w y = some (.inr (7, [.int th, .ref nM, .ref cL, .ref pL, .int rf, .int kd, .int md]))
theorem isY.ext {cL pL : Nat} {w' : Hw} (h : isY w y nM cL pL) (k : ext g w w') : isY w' y nM cL pL := by
  obtain ⟨a, b, c, d, h⟩ := h
  exact ⟨a, b, c, d, k.1 _ _ h⟩
theorem isY.s {cL pL : Nat} {th rf kd0 md : Int32} : isY (upw w y (.inr (7, [.int th, .ref nM, .ref cL, .ref pL, .int rf, .int kd0, .int md]))) y nM cL pL := ⟨_, _, _, _, upw_s _ _ _⟩
theorem isY.fr {cL pL q : Nat} {o : Ob} (h : isY w y nM cL pL) (hq : rd g w q = none) : isY (upw w q o) y nM cL pL := h.ext (ext_up2 ext.rf hq)
theorem isY.un {cL pL nM' cL' pL' : Nat} (h : isY w y nM cL pL) (k : isY w y nM' cL' pL') : nM' = nM ∧ cL' = cL ∧ pL' = pL := by
  obtain ⟨a, b, c, d, h⟩ := h
  obtain ⟨a', b', c', d', k⟩ := k
  rw [h] at k
  cases k
  exact ⟨rfl, rfl, rfl⟩
theorem go_Y {K : List Value → Prop} (h : MM g w0 y nM kd w) (k : ∀ (cL pL : Nat) (th rf md : Int32), isY w y nM cL pL → K [.int th, .ref nM, .ref cL, .ref pL, .int rf, .int kd, .int md]) : go (rd g w y) 7 K := by
  obtain ⟨cL, pL, D1, D2, c1, c2, th, rf, md, n, f, h1, h2, hy, hn, ry, rn, -⟩ := h.1.opn g
  rw [ry, go_s]
  exact k _ _ _ _ _ ⟨_, _, _, _, hy⟩
theorem MM.yC {cL pL : Nat} (h : MM g w0 y nM kd w) (hY : isY w y nM cL pL) : ∃ (D1 D2 c1 c2 : Nat) (th rf md n : Int32) (f : Nat → Int64) (h1 h2 : Nat → Option Nat), w y = some (.inr (7, [.int th, .ref nM, .ref cL, .ref pL, .int rf, .int kd, .int md])) ∧ w nM = some (.inl (0, 8, .inr (.inl f))) ∧ LL g w cL D1 c1 6 h1 ∧ (∀ i b, h1 i = some b → isRow w b) ∧ LL g w pL D2 c2 n h2 ∧ (∀ i b, h2 i = some b → isRow w b) ∧ n.toInt ≤ 12 ∧ cL ≠ pL ∧ D1 ≠ D2 ∧ (∀ i : Nat, (i : Int) < n.toInt → ∃ b, h2 i = some b) ∧ w D1 = some (.inl (5, c1, qc h1)) ∧ (c1 = 10 ∨ c1 = 15) := by
  obtain ⟨cL1, pL1, D1, D2, c1, c2, th, rf, md, n, f, h1, h2, a1, a2, a3, a4, a5, a6, a7, a8, a9, b1⟩ := h.1
  obtain ⟨-, e1, e2⟩ := hY.un ⟨_, _, _, _, a1⟩
  subst e1 e2
  refine ⟨D1, D2, c1, c2, th, rf, md, n, f, h1, h2, a1, a2, a3, a4, a5, a6, a7, a8, a9, b1, ?_⟩
  rcases a3.2.1 with k | ⟨k, -⟩
  · exact k
  · have k2 := a3.2.2.2
    have e6 : (6 : Int32).toInt = 6 := rfl
    omega
theorem gtC {cL pL : Nat} (h : MM g w0 y nM kd w) (hY : isY w y nM cL pL) : go (rd g w cL) 3 fun _ => True := by
  obtain ⟨D1, D2, c1, c2, th, rf, md, n, f, h1, h2, a1, a2, a3, a4, a5, -⟩ := h.yC hY
  exact a3.gt
theorem gtP {cL pL : Nat} (h : MM g w0 y nM kd w) (hY : isY w y nM cL pL) : go (rd g w pL) 3 fun _ => True := by
  obtain ⟨D1, D2, c1, c2, th, rf, md, n, f, h1, h2, a1, a2, a3, a4, a5, -⟩ := h.yC hY
  exact a5.gt
theorem sGetY {cL pL b : Nat} {i : Int32} (hC : CAt g w y i (some b)) (hY : isY w y nM cL pL) (k0 : ¬ i < 0) (k1 : ¬ 5 < i) (hQ : Q (.inl (some (.ref b))) w) : WP (MJx4a65c_get_915e3 g) Q (0, [some (.ref cL), some (.int i)], [], w, 0, 0) := by
  obtain ⟨nM1, cL1, pL1, D, c, th1, rf1, kd1, md1, hh, a1, a2, a3, a4⟩ := hC
  obtain ⟨-, e1, e2⟩ := hY.un ⟨_, _, _, _, a1⟩
  subst e1 e2
  exact sGetC a2 a4 k0 k1 hQ
/-- the cards' array written -/
theorem MM.crd {cL pL D1 D2 c1 c2 : Nat} {th rf md n : Int32} {f : Nat → Int64} {h1 h2 h' : Nat → Option Nat} (h : MM g w0 y nM kd w) (a1 : w y = some (.inr (7, [.int th, .ref nM, .ref cL, .ref pL, .int rf, .int kd, .int md]))) (a2 : w nM = some (.inl (0, 8, .inr (.inl f)))) (a3 : LL g w cL D1 c1 6 h1) (a5 : LL g w pL D2 c2 n h2) (a6 : ∀ i b, h2 i = some b → isRow w b) (a7 : n.toInt ≤ 12) (a8 : cL ≠ pL) (a9 : D1 ≠ D2) (b1 : ∀ i : Nat, (i : Int) < n.toInt → ∃ b, h2 i = some b) (hD : w D1 = some (.inl (5, c1, qc h1))) (hc : c1 = 10 ∨ c1 = 15) (hr : ∀ i b, h' i = some b → isRow w b) : MM g w0 y nM kd (upw w D1 (.inl (5, c1, qc h'))) := by
  obtain ⟨⟨mc, hL⟩, -, h3, h4⟩ := a3
  refine ⟨⟨cL, pL, D1, D2, c1, c2, th, rf, md, n, f, h', h2, ?_, ?_, ⟨⟨mc, ?_⟩, Or.inl ⟨upw_s _ _ _, hc⟩, h3, h4⟩, fun i b z => isRow_up (hr i b z) hD (fun _ e => by cases e), ?_, fun i b z => isRow_up (a6 i b z) hD (fun _ e => by cases e), a7, a8, a9, b1⟩, h.2.up hD (Or.inr rfl)⟩
  · rw [upw_n (ne_of a1 hD (fun e => by cases e))]
    exact a1
  · rw [upw_n (ne_of a2 hD (fun e => by cases e))]
    exact a2
  · rw [upw_n (ne_of hL hD (fun e => by cases e))]
    exact hL
  · refine a5.kp (fun fs e => ?_) (fun z e => ?_) (fun o _ e => ?_)
    · rw [upw_n (ne_of e hD (fun e => by cases e))]
      exact e
    · rw [upw_n (Ne.symm a9)]
      exact e
    · rw [upw_n (Ne.symm a9)]
      exact e
theorem n4e : (4 : Int32).toNatClampNeg = 4 := rfl
theorem vpi4n {a : Int32} (h0 : ¬ a < 0) (h1 : ¬ 3 < a) : vp_in a 4 := vpiM (i32_0 h0) (by
  have h := i32_nlt h1
  have e : (3 : Int32).toInt = 3 := rfl
  omega)
end
end
/-! 63.mod0.lean.txt -/
section
section
variable {g : RO} {Q : Ot → Hw → Prop} {w0 w : Hw}
variable {y nM : Nat} {kd : Int32}
theorem lt65 {a : Int32} (h : a < 6) : ¬ 5 < a := by
  have h1 := i32_lt h
  refine i32_of_nlt ?_
  have e : (5 : Int32).toInt = 5 := rfl
  have e6 : (6 : Int32).toInt = 6 := rfl
  omega
theorem vpi4l {a : Int32} (h0 : ¬ a < 0) (h1 : a < 4) : vp_in a 4 := vpi h0 h1 (by decide)
theorem m9 : ((-1 : Int32) = -1) = True := eq_true rfl
theorem nbz {a : Int32} (h : a = 0 ∨ a = 1) : narrow .boolean (.int a) = .int a := by rcases h with rfl | rfl <;> rfl
theorem bz1 {a : Int32} (h : a = 0 ∨ a = 1) : a &&& 1 = 0 ∨ a &&& 1 = 1 := by rcases h with rfl | rfl <;> decide
theorem bz0 {a : Int32} (h : a = 0 ∨ a = 1) : a &&& 0 = 0 ∨ a &&& 0 = 1 := by rcases h with rfl | rfl <;> decide
theorem bor {a b : Int32} (h : a = 0 ∨ a = 1) (k : b = 0 ∨ b = 1) : a ||| b = 0 ∨ a ||| b = 1 := by rcases h with rfl | rfl <;> rcases k with rfl | rfl <;> decide
set_option maxHeartbeats 4000000 in
theorem lX3_same_4 {p q : Nat} (hp : isRow w p) (hq : isRow w q) (hQ : ∀ v : Int32, (v = 0 ∨ v = 1) → Q (.inl (some (.int v))) w) : ∀ (d : Nat) (i2 : Int32) (i3 : Int32) (k m : Nat), ¬ i3 < 0 → (i2 = 0 ∨ i2 = 1) → (4 : Int32).toInt - i3.toInt ≤ (d : Int) → k ≤ 0 → m ≤ 0 → WP (MX3_same g) Q (4, [some (.ref p), some (.ref q), some (.int i2), some (.int i3)], [], w, k, m) := by
  intro d
  induction d with
  | zero =>
    intro i2 i3 k m z0 zi hm hk hs
    rw [eX3_same_4]
    simp only [eX3_same_5, eX3_same_9, eX3_same_13, eX3_same_16, eX3_same_20, eX3_same_24, eX3_same_25, eX3_same_33, ite_le, nl_int, nl_ref]
    split
    with_reducible exact (ic_z (by assumption) (by assumption)).elim
    with_reducible refine And.intro ?_ ?_
    with_reducible exact nbz (by assumption)
    with_reducible refine And.intro ?_ ?_
    with_reducible assumption
    with_reducible refine And.intro ?_ ?_
    with_reducible assumption
    with_reducible exact hQ _ (by assumption)
  | succ d ih =>
    intro i2 i3 k m z0 zi hm hk hs
    rw [eX3_same_4]
    simp only [eX3_same_5, eX3_same_9, eX3_same_13, eX3_same_16, eX3_same_20, eX3_same_24, eX3_same_25, eX3_same_33, ite_le, nl_int, nl_ref]
    split
    with_reducible refine gl_Row (by assumption) (fun _ => ?_)
    with_reducible refine And.intro ?_ ?_
    with_reducible exact vpi4l (by assumption) (by assumption)
    with_reducible refine gl_Row (by assumption) (fun _ => ?_)
    with_reducible refine And.intro ?_ ?_
    with_reducible exact vpi4l (by assumption) (by assumption)
    split
    with_reducible exact ih _ _ _ _ (ic_p (by assumption) (by assumption)) (by first | exact bz1 (by assumption) | exact bz0 (by assumption)) (ic_s (by assumption) (by assumption)) (by first | assumption | omega) (by first | assumption | omega)
    with_reducible exact ih _ _ _ _ (ic_p (by assumption) (by assumption)) (by first | exact bz1 (by assumption) | exact bz0 (by assumption)) (ic_s (by assumption) (by assumption)) (by first | assumption | omega) (by first | assumption | omega)
    with_reducible refine And.intro ?_ ?_
    with_reducible exact nbz (by assumption)
    with_reducible refine And.intro ?_ ?_
    with_reducible assumption
    with_reducible refine And.intro ?_ ?_
    with_reducible assumption
    with_reducible exact hQ _ (by assumption)
set_option maxHeartbeats 4000000 in
theorem sX3_same {p q : Nat} (hp : isRow w p) (hq : isRow w q) (hQ : ∀ v : Int32, (v = 0 ∨ v = 1) → Q (.inl (some (.int v))) w) : WP (MX3_same g) Q (0, [some (.ref p), some (.ref q), none, none], [], w, 0, 0) := by
  simp only [eX3_same_0, nl_int, nl_ref]
  with_reducible exact lX3_same_4 hp hq hQ 70 _ _ _ _ (by first | decide | assumption) (Or.inr rfl) (by decide) (by first | decide | omega) (by first | decide | omega)
set_option maxHeartbeats 4000000 in
theorem lX3_aroundNow_5 {p : Nat} {a c : Int32} (hp : isRow w p) (k0 : ¬ a < 0) (k1 : ¬ 3 < a) (hQ : ∀ v : Int32, Q (.inl (some (.int v))) w) : ∀ (d : Nat) (i3 : Int32) (i4 : Int32) (k m : Nat), (1 : Int32).toInt + 1 - i4.toInt ≤ (d : Int) → k ≤ 0 → m ≤ 0 → WP (MX3_aroundNow g) Q (5, [some (.ref p), some (.int a), some (.int c), some (.int i3), some (.int i4)], [], w, k, m) := by
  intro d
  induction d with
  | zero =>
    intro i3 i4 k m hm hk hs
    rw [eX3_aroundNow_5]
    simp only [eX3_aroundNow_7, eX3_aroundNow_11, eX3_aroundNow_16, eX3_aroundNow_45, wt_nil, wt_int, Nat.add_zero]
    split
    with_reducible refine And.intro ?_ ?_
    with_reducible assumption
    with_reducible refine And.intro ?_ ?_
    with_reducible assumption
    with_reducible exact hQ _
    with_reducible exact (ic_zl (by assumption) (by assumption)).elim
  | succ d ih =>
    intro i3 i4 k m hm hk hs
    rw [eX3_aroundNow_5]
    simp only [eX3_aroundNow_7, eX3_aroundNow_11, eX3_aroundNow_16, eX3_aroundNow_45, wt_nil, wt_int, Nat.add_zero]
    split
    with_reducible refine And.intro ?_ ?_
    with_reducible assumption
    with_reducible refine And.intro ?_ ?_
    with_reducible assumption
    with_reducible exact hQ _
    with_reducible refine gl_Row (by assumption) (fun _ => ?_)
    with_reducible refine And.intro ?_ ?_
    with_reducible exact vpi4n (by assumption) (by assumption)
    with_reducible refine And.intro ?_ ?_
    omega
    with_reducible refine And.intro ?_ ?_
    with_reducible assumption
    with_reducible refine And.intro ?_ ?_
    with_reducible assumption
    with_reducible refine sX3_valid (by assumption) ?_ ?_
    simp only [eX3_aroundNow_24, eX3_aroundNow_27, eX3_aroundNow_36, eX3_aroundNow_37, kx_l, nl_int, tl_s, if_false, m10]
    with_reducible exact ih _ _ _ _ (ic_sl (by assumption) (by assumption) (by decide)) (by first | assumption | omega) (by first | assumption | omega)
    simp only [eX3_aroundNow_24, eX3_aroundNow_27, eX3_aroundNow_36, eX3_aroundNow_37, kx_l, nl_int, tl_s, if_true]
    with_reducible exact ih _ _ _ _ (ic_sl (by assumption) (by assumption) (by decide)) (by first | assumption | omega) (by first | assumption | omega)
set_option maxHeartbeats 4000000 in
theorem sX3_aroundNow {p : Nat} {a c : Int32} (hp : isRow w p) (k0 : ¬ a < 0) (k1 : ¬ 3 < a) (hQ : ∀ v : Int32, Q (.inl (some (.int v))) w) : WP (MX3_aroundNow g) Q (0, [some (.ref p), some (.int a), some (.int c), none, none], [], w, 0, 0) := by
  simp only [eX3_aroundNow_0, nl_int]
  with_reducible exact lX3_aroundNow_5 hp k0 k1 hQ 70 _ _ _ _ (by decide) (by first | decide | omega) (by first | decide | omega)
end
end
/-! 63.mod1.lean.txt -/
section
section
variable {g : RO} {Q : Ot → Hw → Prop} {w0 w : Hw}
variable {y nM : Nat} {kd : Int32}
set_option maxHeartbeats 4000000 in
theorem lX3_whoNow_5 {a c : Int32} (hM : MM g w0 y nM kd w) (k0 : ¬ a < 0) (k1 : ¬ 7 < a) (hQ : ∀ v : Int32, Q (.inl (some (.int v))) w) : ∀ (d : Nat) (i3 : Int32) (i4 : Int32) (k m : Nat), ¬ i4 < 0 → (6 : Int32).toInt - i4.toInt ≤ (d : Int) → k ≤ 0 → m ≤ 0 → WP (MX3_whoNow g) Q (5, [some (.ref y), some (.int a), some (.int c), some (.int i3), some (.int i4)], [], w, k, m) := by
  intro d
  induction d with
  | zero =>
    intro i3 i4 k m z0 hm hk hs
    rw [eX3_whoNow_5]
    simp only [eX3_whoNow_7, eX3_whoNow_12, eX3_whoNow_68, ite_le, wt_nil, Nat.add_zero]
    split
    with_reducible refine And.intro ?_ ?_
    with_reducible exact (ic_z (by assumption) (by assumption)).elim
    with_reducible refine And.intro ?_ ?_
    with_reducible exact (ic_z (by assumption) (by assumption)).elim
    with_reducible refine And.intro ?_ ?_
    with_reducible assumption
    with_reducible refine And.intro ?_ ?_
    with_reducible assumption
    with_reducible exact (ic_z (by assumption) (by assumption)).elim
    with_reducible refine And.intro ?_ ?_
    with_reducible assumption
    with_reducible refine And.intro ?_ ?_
    with_reducible assumption
    with_reducible exact hQ _
  | succ d ih =>
    intro i3 i4 k m z0 hm hk hs
    rw [eX3_whoNow_5]
    simp only [eX3_whoNow_7, eX3_whoNow_12, eX3_whoNow_68, ite_le, wt_nil, Nat.add_zero]
    split
    with_reducible refine And.intro ?_ ?_
    with_reducible refine go_Y (by first | assumption | exact MMz.m (by assumption) | exact MM.fr (by first | assumption | exact MMz.m (by assumption)) (by assumption) | exact MM.ext' (by assumption) (by assumption) | exact (by assumption : ∀ f', MM g w0 y nM kd (upw _ nM (.inl (0, 8, .inr (.inl f'))))) _ | exact (by assumption : ∀ (th' rf' md' : Int32), MM g w0 y nM kd (upw _ y (.inr (7, [.int th', .ref nM, .ref _, .ref _, .int rf', .int kd, .int md'])))) _ _ _) (fun _ _ _ _ _ _ => ?_)
    simp only []
    with_reducible refine And.intro ?_ ?_
    omega
    with_reducible refine And.intro ?_ ?_
    with_reducible assumption
    with_reducible refine And.intro ?_ ?_
    with_reducible assumption
    with_reducible refine sX3_isBareM (by first | assumption | exact MMz.m (by assumption) | exact MM.fr (by first | assumption | exact MMz.m (by assumption)) (by assumption) | exact MM.ext' (by assumption) (by assumption) | exact (by assumption : ∀ f', MM g w0 y nM kd (upw _ nM (.inl (0, 8, .inr (.inl f'))))) _ | exact (by assumption : ∀ (th' rf' md' : Int32), MM g w0 y nM kd (upw _ y (.inr (7, [.int th', .ref nM, .ref _, .ref _, .int rf', .int kd, .int md'])))) _ _ _) (by assumption) (by first | assumption | exact lt65 (by assumption)) ?_ (fun _ _ => ?_)
    simp only [eX3_whoNow_18, eX3_whoNow_21, eX3_whoNow_25, eX3_whoNow_62, kx_l, nl_int, tl_s, if_false, m10]
    with_reducible exact ih _ _ _ _ (ic_p (by assumption) (by assumption)) (ic_s (by assumption) (by assumption)) (by first | assumption | omega) (by first | assumption | omega)
    simp only [eX3_whoNow_18, eX3_whoNow_21, eX3_whoNow_25, eX3_whoNow_62, kx_l, nl_int, tl_s, if_true]
    with_reducible refine go_Y (by first | assumption | exact MMz.m (by assumption) | exact MM.fr (by first | assumption | exact MMz.m (by assumption)) (by assumption) | exact MM.ext' (by assumption) (by assumption) | exact (by assumption : ∀ f', MM g w0 y nM kd (upw _ nM (.inl (0, 8, .inr (.inl f'))))) _ | exact (by assumption : ∀ (th' rf' md' : Int32), MM g w0 y nM kd (upw _ y (.inr (7, [.int th', .ref nM, .ref _, .ref _, .int rf', .int kd, .int md'])))) _ _ _) (fun _ _ _ _ _ _ => ?_)
    simp only [eX3_whoNow_27, wt_nil, g0, gS, ex1, Nat.add_zero]
    with_reducible refine And.intro ?_ ?_
    with_reducible exact gtC (by first | assumption | exact MMz.m (by assumption) | exact MM.fr (by first | assumption | exact MMz.m (by assumption)) (by assumption) | exact MM.ext' (by assumption) (by assumption) | exact (by assumption : ∀ f', MM g w0 y nM kd (upw _ nM (.inl (0, 8, .inr (.inl f'))))) _ | exact (by assumption : ∀ (th' rf' md' : Int32), MM g w0 y nM kd (upw _ y (.inr (7, [.int th', .ref nM, .ref _, .ref _, .int rf', .int kd, .int md'])))) _ _ _) (by first | assumption | exact isY.s | exact isY.fr (by assumption) (by assumption))
    with_reducible refine And.intro ?_ ?_
    omega
    with_reducible refine And.intro ?_ ?_
    with_reducible assumption
    with_reducible refine And.intro ?_ ?_
    with_reducible assumption
    with_reducible refine sGetY (by first | assumption | exact CAt.fr (by assumption) (by assumption)) (by first | assumption | exact isY.s | exact isY.fr (by assumption) (by assumption)) (by assumption) (by first | assumption | exact lt65 (by assumption)) ?_
    simp only [eX3_whoNow_30R, eX3_whoNow_33, eX3_whoNow_37, kx_l, tl_s]
    with_reducible refine And.intro ?_ ?_
    with_reducible exact isRow.ca (by first | assumption | exact CAt.row (by assumption) | exact isRow.ext (by assumption) (by assumption))
    with_reducible refine go_Y (by first | assumption | exact MMz.m (by assumption) | exact MM.fr (by first | assumption | exact MMz.m (by assumption)) (by assumption) | exact MM.ext' (by assumption) (by assumption) | exact (by assumption : ∀ f', MM g w0 y nM kd (upw _ nM (.inl (0, 8, .inr (.inl f'))))) _ | exact (by assumption : ∀ (th' rf' md' : Int32), MM g w0 y nM kd (upw _ y (.inr (7, [.int th', .ref nM, .ref _, .ref _, .int rf', .int kd, .int md'])))) _ _ _) (fun _ _ _ _ _ _ => ?_)
    simp only [eX3_whoNow_38, eX3_whoNow_39, eX3_whoNow_44, eX3_whoNow_48, eX3_whoNow_49R, wt_nil, g0, gS, ex1, Nat.add_zero]
    with_reducible refine gl_M (by first | assumption | exact MMz.m (by assumption) | exact MM.fr (by first | assumption | exact MMz.m (by assumption)) (by assumption) | exact MM.ext' (by assumption) (by assumption) | exact (by assumption : ∀ f', MM g w0 y nM kd (upw _ nM (.inl (0, 8, .inr (.inl f'))))) _ | exact (by assumption : ∀ (th' rf' md' : Int32), MM g w0 y nM kd (upw _ y (.inr (7, [.int th', .ref nM, .ref _, .ref _, .int rf', .int kd, .int md'])))) _ _ _) ?_
    split
    with_reducible intro _
    with_reducible refine And.intro ?_ ?_
    with_reducible exact vpi8n (by assumption) (by assumption)
    with_reducible refine And.intro ?_ ?_
    omega
    with_reducible refine And.intro ?_ ?_
    with_reducible assumption
    with_reducible refine And.intro ?_ ?_
    with_reducible assumption
    with_reducible refine sX3_valid (by first | assumption | exact CAt.row (by assumption) | exact isRow.ext (by assumption) (by assumption)) ?_ ?_
    simp only [eX3_whoNow_52, eX3_whoNow_55, eX3_whoNow_62, kx_l, nl_int, tl_s, if_false, m10]
    with_reducible exact ih _ _ _ _ (ic_p (by assumption) (by assumption)) (ic_s (by assumption) (by assumption)) (by first | assumption | omega) (by first | assumption | omega)
    simp only [eX3_whoNow_52, eX3_whoNow_55, eX3_whoNow_62, kx_l, nl_int, tl_s, if_true]
    with_reducible exact ih _ _ _ _ (ic_p (by assumption) (by assumption)) (ic_s (by assumption) (by assumption)) (by first | assumption | omega) (by first | assumption | omega)
    with_reducible intro _
    with_reducible refine And.intro ?_ ?_
    with_reducible exact vpi8n (by assumption) (by assumption)
    with_reducible refine And.intro ?_ ?_
    omega
    with_reducible refine And.intro ?_ ?_
    with_reducible assumption
    with_reducible refine And.intro ?_ ?_
    with_reducible assumption
    with_reducible refine sX3_valid (by first | assumption | exact CAt.row (by assumption) | exact isRow.ext (by assumption) (by assumption)) ?_ ?_
    simp only [eX3_whoNow_52, eX3_whoNow_55, eX3_whoNow_62, kx_l, nl_int, tl_s, if_false, m10]
    with_reducible exact ih _ _ _ _ (ic_p (by assumption) (by assumption)) (ic_s (by assumption) (by assumption)) (by first | assumption | omega) (by first | assumption | omega)
    simp only [eX3_whoNow_52, eX3_whoNow_55, eX3_whoNow_62, kx_l, nl_int, tl_s, if_true]
    with_reducible exact ih _ _ _ _ (ic_p (by assumption) (by assumption)) (ic_s (by assumption) (by assumption)) (by first | assumption | omega) (by first | assumption | omega)
    with_reducible refine And.intro ?_ ?_
    with_reducible assumption
    with_reducible refine And.intro ?_ ?_
    with_reducible assumption
    with_reducible exact hQ _
set_option maxHeartbeats 4000000 in
theorem sX3_whoNow {a c : Int32} (hM : MM g w0 y nM kd w) (k0 : ¬ a < 0) (k1 : ¬ 7 < a) (hQ : ∀ v : Int32, Q (.inl (some (.int v))) w) : WP (MX3_whoNow g) Q (0, [some (.ref y), some (.int a), some (.int c), none, none], [], w, 0, 0) := by
  simp only [eX3_whoNow_0, nl_int]
  with_reducible exact lX3_whoNow_5 hM k0 k1 hQ 70 _ _ _ _ (by first | decide | assumption) (by decide) (by first | decide | omega) (by first | decide | omega)
set_option maxHeartbeats 4000000 in
theorem lX3_whichNow__4 {a : Int32} (hM : MM g w0 y nM kd w) (hQ : ∀ v : Int32, Q (.inl (some (.int v))) w) : ∀ (d : Nat) (i2 : Int32) (i3 : Int32) (k m : Nat), ¬ i3 < 0 → (6 : Int32).toInt - i3.toInt ≤ (d : Int) → k ≤ 0 → m ≤ 0 → WP (MX3_whichNow_ g) Q (4, [some (.ref y), some (.int a), some (.int i2), some (.int i3)], [], w, k, m) := by
  intro d
  induction d with
  | zero =>
    intro i2 i3 k m z0 hm hk hs
    rw [eX3_whichNow__4]
    simp only [eX3_whichNow__5, eX3_whichNow__10, eX3_whichNow__76, ite_le, wt_nil, Nat.add_zero]
    split
    with_reducible refine And.intro ?_ ?_
    with_reducible exact (ic_z (by assumption) (by assumption)).elim
    with_reducible refine And.intro ?_ ?_
    with_reducible exact (ic_z (by assumption) (by assumption)).elim
    with_reducible refine And.intro ?_ ?_
    with_reducible assumption
    with_reducible refine And.intro ?_ ?_
    with_reducible assumption
    with_reducible exact (ic_z (by assumption) (by assumption)).elim
    with_reducible refine And.intro ?_ ?_
    with_reducible assumption
    with_reducible refine And.intro ?_ ?_
    with_reducible assumption
    with_reducible exact hQ _
  | succ d ih =>
    intro i2 i3 k m z0 hm hk hs
    rw [eX3_whichNow__4]
    simp only [eX3_whichNow__5, eX3_whichNow__10, eX3_whichNow__76, ite_le, wt_nil, Nat.add_zero]
    split
    with_reducible refine And.intro ?_ ?_
    with_reducible refine go_Y (by first | assumption | exact MMz.m (by assumption) | exact MM.fr (by first | assumption | exact MMz.m (by assumption)) (by assumption) | exact MM.ext' (by assumption) (by assumption) | exact (by assumption : ∀ f', MM g w0 y nM kd (upw _ nM (.inl (0, 8, .inr (.inl f'))))) _ | exact (by assumption : ∀ (th' rf' md' : Int32), MM g w0 y nM kd (upw _ y (.inr (7, [.int th', .ref nM, .ref _, .ref _, .int rf', .int kd, .int md'])))) _ _ _) (fun _ _ _ _ _ _ => ?_)
    simp only []
    with_reducible refine And.intro ?_ ?_
    omega
    with_reducible refine And.intro ?_ ?_
    with_reducible assumption
    with_reducible refine And.intro ?_ ?_
    with_reducible assumption
    with_reducible refine sX3_isBareM (by first | assumption | exact MMz.m (by assumption) | exact MM.fr (by first | assumption | exact MMz.m (by assumption)) (by assumption) | exact MM.ext' (by assumption) (by assumption) | exact (by assumption : ∀ f', MM g w0 y nM kd (upw _ nM (.inl (0, 8, .inr (.inl f'))))) _ | exact (by assumption : ∀ (th' rf' md' : Int32), MM g w0 y nM kd (upw _ y (.inr (7, [.int th', .ref nM, .ref _, .ref _, .int rf', .int kd, .int md'])))) _ _ _) (by assumption) (by first | assumption | exact lt65 (by assumption)) ?_ (fun _ _ => ?_)
    simp only [eX3_whichNow__15, eX3_whichNow__18, eX3_whichNow__22, eX3_whichNow__27, eX3_whichNow__31, eX3_whichNow__47, eX3_whichNow__51, eX3_whichNow__64, eX3_whichNow__70, kx_l, nl_int, tl_s, if_false, m10]
    with_reducible exact ih _ _ _ _ (ic_p (by assumption) (by assumption)) (ic_s (by assumption) (by assumption)) (by first | assumption | omega) (by first | assumption | omega)
    simp only [eX3_whichNow__15, eX3_whichNow__18, eX3_whichNow__22, eX3_whichNow__27, eX3_whichNow__31, eX3_whichNow__47, eX3_whichNow__51, eX3_whichNow__64, eX3_whichNow__70, kx_l, nl_int, tl_s, if_true]
    split
    with_reducible exact ih _ _ _ _ (ic_p (by assumption) (by assumption)) (ic_s (by assumption) (by assumption)) (by first | assumption | omega) (by first | assumption | omega)
    split
    with_reducible refine go_Y (by first | assumption | exact MMz.m (by assumption) | exact MM.fr (by first | assumption | exact MMz.m (by assumption)) (by assumption) | exact MM.ext' (by assumption) (by assumption) | exact (by assumption : ∀ f', MM g w0 y nM kd (upw _ nM (.inl (0, 8, .inr (.inl f'))))) _ | exact (by assumption : ∀ (th' rf' md' : Int32), MM g w0 y nM kd (upw _ y (.inr (7, [.int th', .ref nM, .ref _, .ref _, .int rf', .int kd, .int md'])))) _ _ _) (fun _ _ _ _ _ _ => ?_)
    simp only [eX3_whichNow__32, wt_nil, g0, gS, ex1, Nat.add_zero]
    with_reducible refine And.intro ?_ ?_
    with_reducible exact gtC (by first | assumption | exact MMz.m (by assumption) | exact MM.fr (by first | assumption | exact MMz.m (by assumption)) (by assumption) | exact MM.ext' (by assumption) (by assumption) | exact (by assumption : ∀ f', MM g w0 y nM kd (upw _ nM (.inl (0, 8, .inr (.inl f'))))) _ | exact (by assumption : ∀ (th' rf' md' : Int32), MM g w0 y nM kd (upw _ y (.inr (7, [.int th', .ref nM, .ref _, .ref _, .int rf', .int kd, .int md'])))) _ _ _) (by first | assumption | exact isY.s | exact isY.fr (by assumption) (by assumption))
    with_reducible refine And.intro ?_ ?_
    omega
    with_reducible refine And.intro ?_ ?_
    with_reducible assumption
    with_reducible refine And.intro ?_ ?_
    with_reducible assumption
    with_reducible refine sGetY (by first | assumption | exact CAt.fr (by assumption) (by assumption)) (by first | assumption | exact isY.s | exact isY.fr (by assumption) (by assumption)) (by assumption) (by first | assumption | exact lt65 (by assumption)) ?_
    simp only [eX3_whichNow__35R, eX3_whichNow__38R, kx_l, wt_nil, tl_s, Nat.add_zero]
    with_reducible refine And.intro ?_ ?_
    with_reducible exact isRow.ca (by first | assumption | exact CAt.row (by assumption) | exact isRow.ext (by assumption) (by assumption))
    with_reducible refine And.intro ?_ ?_
    omega
    with_reducible refine And.intro ?_ ?_
    with_reducible assumption
    with_reducible refine And.intro ?_ ?_
    with_reducible assumption
    with_reducible refine sX3_fixed (by first | assumption | exact CAt.row (by assumption) | exact isRow.ext (by assumption) (by assumption)) ?_ ?_
    simp only [eX3_whichNow__41, eX3_whichNow__44, eX3_whichNow__64, eX3_whichNow__70, kx_l, nl_int, tl_s, if_false, m10]
    with_reducible exact ih _ _ _ _ (ic_p (by assumption) (by assumption)) (ic_s (by assumption) (by assumption)) (by first | assumption | omega) (by first | assumption | omega)
    simp only [eX3_whichNow__41, eX3_whichNow__44, eX3_whichNow__64, eX3_whichNow__70, kx_l, nl_int, tl_s, if_true]
    with_reducible exact ih _ _ _ _ (ic_p (by assumption) (by assumption)) (ic_s (by assumption) (by assumption)) (by first | assumption | omega) (by first | assumption | omega)
    with_reducible refine go_Y (by first | assumption | exact MMz.m (by assumption) | exact MM.fr (by first | assumption | exact MMz.m (by assumption)) (by assumption) | exact MM.ext' (by assumption) (by assumption) | exact (by assumption : ∀ f', MM g w0 y nM kd (upw _ nM (.inl (0, 8, .inr (.inl f'))))) _ | exact (by assumption : ∀ (th' rf' md' : Int32), MM g w0 y nM kd (upw _ y (.inr (7, [.int th', .ref nM, .ref _, .ref _, .int rf', .int kd, .int md'])))) _ _ _) (fun _ _ _ _ _ _ => ?_)
    simp only [eX3_whichNow__52, wt_nil, g0, gS, ex1, Nat.add_zero]
    with_reducible refine And.intro ?_ ?_
    with_reducible exact gtC (by first | assumption | exact MMz.m (by assumption) | exact MM.fr (by first | assumption | exact MMz.m (by assumption)) (by assumption) | exact MM.ext' (by assumption) (by assumption) | exact (by assumption : ∀ f', MM g w0 y nM kd (upw _ nM (.inl (0, 8, .inr (.inl f'))))) _ | exact (by assumption : ∀ (th' rf' md' : Int32), MM g w0 y nM kd (upw _ y (.inr (7, [.int th', .ref nM, .ref _, .ref _, .int rf', .int kd, .int md'])))) _ _ _) (by first | assumption | exact isY.s | exact isY.fr (by assumption) (by assumption))
    with_reducible refine And.intro ?_ ?_
    omega
    with_reducible refine And.intro ?_ ?_
    with_reducible assumption
    with_reducible refine And.intro ?_ ?_
    with_reducible assumption
    with_reducible refine sGetY (by first | assumption | exact CAt.fr (by assumption) (by assumption)) (by first | assumption | exact isY.s | exact isY.fr (by assumption) (by assumption)) (by assumption) (by first | assumption | exact lt65 (by assumption)) ?_
    simp only [eX3_whichNow__55R, eX3_whichNow__58R, kx_l, wt_nil, tl_s, Nat.add_zero]
    with_reducible refine And.intro ?_ ?_
    with_reducible exact isRow.ca (by first | assumption | exact CAt.row (by assumption) | exact isRow.ext (by assumption) (by assumption))
    with_reducible refine And.intro ?_ ?_
    omega
    with_reducible refine And.intro ?_ ?_
    with_reducible assumption
    with_reducible refine And.intro ?_ ?_
    with_reducible assumption
    with_reducible refine sX3_small (by first | assumption | exact CAt.row (by assumption) | exact isRow.ext (by assumption) (by assumption)) ?_ ?_
    simp only [eX3_whichNow__61, eX3_whichNow__64, eX3_whichNow__70, kx_l, nl_int, tl_s, if_false, m10]
    with_reducible exact ih _ _ _ _ (ic_p (by assumption) (by assumption)) (ic_s (by assumption) (by assumption)) (by first | assumption | omega) (by first | assumption | omega)
    simp only [eX3_whichNow__61, eX3_whichNow__64, eX3_whichNow__70, kx_l, nl_int, tl_s, if_true]
    with_reducible exact ih _ _ _ _ (ic_p (by assumption) (by assumption)) (ic_s (by assumption) (by assumption)) (by first | assumption | omega) (by first | assumption | omega)
    with_reducible refine And.intro ?_ ?_
    with_reducible assumption
    with_reducible refine And.intro ?_ ?_
    with_reducible assumption
    with_reducible exact hQ _
set_option maxHeartbeats 4000000 in
theorem sX3_whichNow_ {a : Int32} (hM : MM g w0 y nM kd w) (hQ : ∀ v : Int32, Q (.inl (some (.int v))) w) : WP (MX3_whichNow_ g) Q (0, [some (.ref y), some (.int a), none, none], [], w, 0, 0) := by
  simp only [eX3_whichNow__0, nl_int]
  with_reducible exact lX3_whichNow__4 hM hQ 70 _ _ _ _ (by first | decide | assumption) (by decide) (by first | decide | omega) (by first | decide | omega)
set_option maxHeartbeats 4000000 in
theorem lX3_likesNow_4 {a : Int32} {b : Nat} (hM : MM g w0 y nM kd w) (hC : CAt g w y a (some b)) (k0 : ¬ a < 0) (k1 : ¬ 5 < a) (hQ : ∀ v : Int32, Q (.inl (some (.int v))) w) : ∀ (d : Nat) (i2 : Int32) (i3 : Int32) (k m : Nat), ¬ i3 < 0 → (6 : Int32).toInt - i3.toInt ≤ (d : Int) → k ≤ 0 → m ≤ 0 → WP (MX3_likesNow g) Q (4, [some (.ref y), some (.int a), some (.int i2), some (.int i3)], [], w, k, m) := by
  intro d
  induction d with
  | zero =>
    intro i2 i3 k m z0 hm hk hs
    rw [eX3_likesNow_4]
    simp only [eX3_likesNow_5, eX3_likesNow_10, eX3_likesNow_58, ite_le, wt_nil, Nat.add_zero]
    split
    with_reducible refine And.intro ?_ ?_
    with_reducible exact (ic_z (by assumption) (by assumption)).elim
    with_reducible refine And.intro ?_ ?_
    with_reducible exact (ic_z (by assumption) (by assumption)).elim
    with_reducible refine And.intro ?_ ?_
    with_reducible assumption
    with_reducible refine And.intro ?_ ?_
    with_reducible assumption
    with_reducible exact (ic_z (by assumption) (by assumption)).elim
    with_reducible refine And.intro ?_ ?_
    with_reducible assumption
    with_reducible refine And.intro ?_ ?_
    with_reducible assumption
    with_reducible exact hQ _
  | succ d ih =>
    intro i2 i3 k m z0 hm hk hs
    rw [eX3_likesNow_4]
    simp only [eX3_likesNow_5, eX3_likesNow_10, eX3_likesNow_58, ite_le, wt_nil, Nat.add_zero]
    split
    with_reducible refine And.intro ?_ ?_
    with_reducible refine go_Y (by first | assumption | exact MMz.m (by assumption) | exact MM.fr (by first | assumption | exact MMz.m (by assumption)) (by assumption) | exact MM.ext' (by assumption) (by assumption) | exact (by assumption : ∀ f', MM g w0 y nM kd (upw _ nM (.inl (0, 8, .inr (.inl f'))))) _ | exact (by assumption : ∀ (th' rf' md' : Int32), MM g w0 y nM kd (upw _ y (.inr (7, [.int th', .ref nM, .ref _, .ref _, .int rf', .int kd, .int md'])))) _ _ _) (fun _ _ _ _ _ _ => ?_)
    simp only []
    with_reducible refine And.intro ?_ ?_
    omega
    with_reducible refine And.intro ?_ ?_
    with_reducible assumption
    with_reducible refine And.intro ?_ ?_
    with_reducible assumption
    with_reducible refine sX3_isBareM (by first | assumption | exact MMz.m (by assumption) | exact MM.fr (by first | assumption | exact MMz.m (by assumption)) (by assumption) | exact MM.ext' (by assumption) (by assumption) | exact (by assumption : ∀ f', MM g w0 y nM kd (upw _ nM (.inl (0, 8, .inr (.inl f'))))) _ | exact (by assumption : ∀ (th' rf' md' : Int32), MM g w0 y nM kd (upw _ y (.inr (7, [.int th', .ref nM, .ref _, .ref _, .int rf', .int kd, .int md'])))) _ _ _) (by assumption) (by first | assumption | exact lt65 (by assumption)) ?_ (fun _ _ => ?_)
    simp only [eX3_likesNow_15, eX3_likesNow_18, eX3_likesNow_22, eX3_likesNow_52, kx_l, nl_int, tl_s, if_false, m10]
    with_reducible exact ih _ _ _ _ (ic_p (by assumption) (by assumption)) (ic_s (by assumption) (by assumption)) (by first | assumption | omega) (by first | assumption | omega)
    simp only [eX3_likesNow_15, eX3_likesNow_18, eX3_likesNow_22, eX3_likesNow_52, kx_l, nl_int, tl_s, if_true]
    with_reducible refine go_Y (by first | assumption | exact MMz.m (by assumption) | exact MM.fr (by first | assumption | exact MMz.m (by assumption)) (by assumption) | exact MM.ext' (by assumption) (by assumption) | exact (by assumption : ∀ f', MM g w0 y nM kd (upw _ nM (.inl (0, 8, .inr (.inl f'))))) _ | exact (by assumption : ∀ (th' rf' md' : Int32), MM g w0 y nM kd (upw _ y (.inr (7, [.int th', .ref nM, .ref _, .ref _, .int rf', .int kd, .int md'])))) _ _ _) (fun _ _ _ _ _ _ => ?_)
    simp only [eX3_likesNow_23, wt_nil, g0, gS, ex1, Nat.add_zero]
    with_reducible refine And.intro ?_ ?_
    with_reducible exact gtC (by first | assumption | exact MMz.m (by assumption) | exact MM.fr (by first | assumption | exact MMz.m (by assumption)) (by assumption) | exact MM.ext' (by assumption) (by assumption) | exact (by assumption : ∀ f', MM g w0 y nM kd (upw _ nM (.inl (0, 8, .inr (.inl f'))))) _ | exact (by assumption : ∀ (th' rf' md' : Int32), MM g w0 y nM kd (upw _ y (.inr (7, [.int th', .ref nM, .ref _, .ref _, .int rf', .int kd, .int md'])))) _ _ _) (by first | assumption | exact isY.s | exact isY.fr (by assumption) (by assumption))
    with_reducible refine And.intro ?_ ?_
    omega
    with_reducible refine And.intro ?_ ?_
    with_reducible assumption
    with_reducible refine And.intro ?_ ?_
    with_reducible assumption
    with_reducible refine sGetY (by first | assumption | exact CAt.fr (by assumption) (by assumption)) (by first | assumption | exact isY.s | exact isY.fr (by assumption) (by assumption)) (by assumption) (by first | assumption | exact lt65 (by assumption)) ?_
    simp only [eX3_likesNow_26R, eX3_likesNow_29, eX3_likesNow_33, kx_l, tl_s]
    with_reducible refine And.intro ?_ ?_
    with_reducible exact isRow.ca (by first | assumption | exact CAt.row (by assumption) | exact isRow.ext (by assumption) (by assumption))
    with_reducible refine go_Y (by first | assumption | exact MMz.m (by assumption) | exact MM.fr (by first | assumption | exact MMz.m (by assumption)) (by assumption) | exact MM.ext' (by assumption) (by assumption) | exact (by assumption : ∀ f', MM g w0 y nM kd (upw _ nM (.inl (0, 8, .inr (.inl f'))))) _ | exact (by assumption : ∀ (th' rf' md' : Int32), MM g w0 y nM kd (upw _ y (.inr (7, [.int th', .ref nM, .ref _, .ref _, .int rf', .int kd, .int md'])))) _ _ _) (fun _ _ _ _ _ _ => ?_)
    simp only [eX3_likesNow_34, wt_nil, wt_ref, g0, gS, ex1, Nat.add_zero]
    with_reducible refine And.intro ?_ ?_
    with_reducible exact gtC (by first | assumption | exact MMz.m (by assumption) | exact MM.fr (by first | assumption | exact MMz.m (by assumption)) (by assumption) | exact MM.ext' (by assumption) (by assumption) | exact (by assumption : ∀ f', MM g w0 y nM kd (upw _ nM (.inl (0, 8, .inr (.inl f'))))) _ | exact (by assumption : ∀ (th' rf' md' : Int32), MM g w0 y nM kd (upw _ y (.inr (7, [.int th', .ref nM, .ref _, .ref _, .int rf', .int kd, .int md'])))) _ _ _) (by first | assumption | exact isY.s | exact isY.fr (by assumption) (by assumption))
    with_reducible refine And.intro ?_ ?_
    omega
    with_reducible refine And.intro ?_ ?_
    with_reducible assumption
    with_reducible refine And.intro ?_ ?_
    with_reducible assumption
    with_reducible refine sGetY (by first | assumption | exact CAt.fr (by assumption) (by assumption)) (by first | assumption | exact isY.s | exact isY.fr (by assumption) (by assumption)) (by assumption) (by first | assumption | exact lt65 (by assumption)) ?_
    simp only [eX3_likesNow_37R, eX3_likesNow_40RR, kx_l, wt_nil, tl_s, Nat.add_zero]
    with_reducible refine And.intro ?_ ?_
    with_reducible exact isRow.ca (by first | assumption | exact CAt.row (by assumption) | exact isRow.ext (by assumption) (by assumption))
    with_reducible refine And.intro ?_ ?_
    omega
    with_reducible refine And.intro ?_ ?_
    with_reducible assumption
    with_reducible refine And.intro ?_ ?_
    with_reducible assumption
    with_reducible refine sX3_same (by first | assumption | exact CAt.row (by assumption) | exact isRow.ext (by assumption) (by assumption)) (by first | assumption | exact CAt.row (by assumption) | exact isRow.ext (by assumption) (by assumption)) (fun _ _ => ?_)
    simp only [eX3_likesNow_43, eX3_likesNow_46, eX3_likesNow_52, kx_l, nl_int, tl_s]
    split
    with_reducible exact ih _ _ _ _ (ic_p (by assumption) (by assumption)) (ic_s (by assumption) (by assumption)) (by first | assumption | omega) (by first | assumption | omega)
    with_reducible exact ih _ _ _ _ (ic_p (by assumption) (by assumption)) (ic_s (by assumption) (by assumption)) (by first | assumption | omega) (by first | assumption | omega)
    with_reducible refine And.intro ?_ ?_
    with_reducible assumption
    with_reducible refine And.intro ?_ ?_
    with_reducible assumption
    with_reducible exact hQ _
set_option maxHeartbeats 4000000 in
theorem sX3_likesNow {a : Int32} {b : Nat} (hM : MM g w0 y nM kd w) (hC : CAt g w y a (some b)) (k0 : ¬ a < 0) (k1 : ¬ 5 < a) (hQ : ∀ v : Int32, Q (.inl (some (.int v))) w) : WP (MX3_likesNow g) Q (0, [some (.ref y), some (.int a), none, none], [], w, 0, 0) := by
  simp only [eX3_likesNow_0, nl_int]
  with_reducible exact lX3_likesNow_4 hM hC k0 k1 hQ 70 _ _ _ _ (by first | decide | assumption) (by decide) (by first | decide | omega) (by first | decide | omega)
end
end
/-! 63.mod3.lean.txt -/
section
section
variable {g : RO} {Q : Ot → Hw → Prop} {w0 w : Hw}
variable {y nM : Nat} {kd : Int32}
theorem MM.st (h : MM g w0 y nM kd w) : MM g w y nM kd w := ⟨h.1, FM.rf⟩
theorem MM.cat {kd' : Int32} {w' : Hw} (h : MM g w0 y nM kd w) (k : MM g w y nM kd' w') : MM g w0 y nM kd' w' := ⟨k.1, h.2.tr k.2⟩
theorem MM.row {kd' : Int32} {w' : Hw} {b : Nat} (h : MM g w0 y nM kd w) (k : MM g w y nM kd' w') (hb : isRow w b) : isRow w' b := by
  obtain ⟨cL, pL, D1, D2, c1, c2, th, rf, md, n, f, h1, h2, a1, a2, -⟩ := h.1
  obtain ⟨f0, hb⟩ := hb
  exact ⟨f0, k.2.1 _ _ hb (ne_of hb a2 (fun e => by cases e)) rfl⟩
end
end
/-! 64.pil0.lean.txt -/
section
section
variable {g : RO} {Q : Ot → Hw → Prop} {w0 w : Hw}
variable {y nM : Nat} {kd : Int32}
/-- the pile's size is n -/
def PN (g : RO) (w : Hw) (y : Nat) (n : Int32) : Prop := ∃ (nM cL pL D c : Nat) (h : Nat → Option Nat), isY w y nM cL pL ∧ LL g w pL D c n h ∧ (∀ i b, h i = some b → isRow w b) ∧ n.toInt ≤ 12 ∧ ∀ i : Nat, (i : Int) < n.toInt → ∃ b, h i = some b
theorem PN.ofM (h : MM g w0 y nM kd w) : ∃ n, PN g w y n := by
  obtain ⟨cL, pL, D1, D2, c1, c2, th, rf, md, n, f, h1, h2, a1, a2, a3, a4, a5, a6, a7, a8, a9, b1⟩ := h.1
  exact ⟨n, nM, cL, pL, D2, c2, h2, ⟨_, _, _, _, a1⟩, a5, a6, a7, b1⟩
theorem PN.bd {n : Int32} (h : PN g w y n) : 0 ≤ n.toInt ∧ n.toInt ≤ 12 := by
  obtain ⟨nM, cL, pL, D, c, h, h1, h2, h3, h4, h5⟩ := h
  exact ⟨h2.2.2.1, h4⟩
theorem PN.m {n : Int32} (h : PN g w y n) : (n : Int32).toInt - (0 : Int32).toInt ≤ ((70 : Nat) : Int) := by
  have k := h.bd
  have e : (0 : Int32).toInt = 0 := rfl
  omega
theorem PN.set {n : Int32} {nM' cL pL : Nat} {th rf md kd0 th' rf' md' kd' : Int32} (h : PN g w y n) (hy : w y = some (.inr (7, [.int th, .ref nM', .ref cL, .ref pL, .int rf, .int kd0, .int md]))) : PN g (upw w y (.inr (7, [.int th', .ref nM', .ref cL, .ref pL, .int rf', .int kd', .int md']))) y n := by
  obtain ⟨nM1, cL1, pL1, D, c, hh, h1, h2, h3, h4, h5⟩ := h
  obtain ⟨e0, e1, e2⟩ := h1.un ⟨_, _, _, _, hy⟩
  subst e0 e1 e2
  exact ⟨_, _, _, D, c, hh, ⟨_, _, _, _, upw_s _ _ _⟩, h2.up hy (fun _ e => by cases e) (fun _ e => by cases e), fun i b z => isRow_up (h3 i b z) hy (fun _ e => by cases e), h4, h5⟩
theorem PN.ext {n : Int32} {w' : Hw} (h : PN g w y n) (k : ext g w w') : PN g w' y n := by
  obtain ⟨nM1, cL1, pL1, D, c, hh, h1, h2, h3, h4, h5⟩ := h
  exact ⟨_, _, _, D, c, hh, h1.ext k, h2.kp (fun fs e => k.1 _ _ e) (fun z e => k.1 _ _ e) (fun o e1 e2 => k.2 _ o e1 e2), fun i b z => (h3 i b z).ext k, h4, h5⟩
theorem sSizeY {n : Int32} {nM' cL pL : Nat} (hP : PN g w y n) (hY : isY w y nM' cL pL) (hQ : Q (.inl (some (.int n))) w) : WP (MJx4a65c_size_8abf5 g) Q (0, [some (.ref pL)], [], w, 0, 0) := by
  obtain ⟨nM1, cL1, pL1, D, c, hh, h1, h2, h3, h4, h5⟩ := hP
  obtain ⟨-, -, e2⟩ := h1.un hY
  subst e2
  exact sJx4a65c_size h2 hQ
theorem sSizeM {cL pL : Nat} (hM : MM g w0 y nM kd w) (hY : isY w y nM cL pL) (hQ : ∀ n, PN g w y n → Q (.inl (some (.int n))) w) : WP (MJx4a65c_size_8abf5 g) Q (0, [some (.ref pL)], [], w, 0, 0) := by
  obtain ⟨n, hP⟩ := PN.ofM hM
  exact sSizeY hP hY (hQ _ hP)
theorem sGetP {n i : Int32} {nM' cL pL : Nat} (hP : PN g w y n) (hY : isY w y nM' cL pL) (k0 : ¬ i < 0) (k1 : i < n) (hQ : ∀ b, isRow w b → Q (.inl (some (.ref b))) w) : WP (MJx4a65c_get_915e3 g) Q (0, [some (.ref pL), some (.int i)], [], w, 0, 0) := by
  obtain ⟨nM1, cL1, pL1, D, c, hh, h1, h2, h3, h4, h5⟩ := hP
  obtain ⟨-, -, e2⟩ := h1.un hY
  subst e2
  have q0 := i32_0 k0
  have q1 := i32_lt k1
  refine sJx4a65c_get h2 q0 q1 (fun e => ?_) (fun b e => hQ b (h3 _ _ e))
  obtain ⟨b, hb⟩ := h5 i.toNatClampNeg (by
    have t : i.toNatClampNeg = i.toInt.toNat := rfl
    omega)
  rw [hb] at e
  cases e
theorem MM.eg (h : MM g w0 y nM kd w) (hE : EG g w0) : EG g w := ⟨hE.1.imp fun e z => ⟨z.1, z.2.1, h.2.2 e _ z.2.1 z.2.2⟩, hE.2⟩
/-- the pile's list another: one row more or less -/
theorem MM.lpo {cL pL D1 D2 c1 c2 : Nat} {th rf md n n' : Int32} {f : Nat → Int64} {h1 h2 : Nat → Option Nat} {w' : Hw} {H : (Nat → Option Nat) → Prop} (h : MM g w0 y nM kd w) (a1 : w y = some (.inr (7, [.int th, .ref nM, .ref cL, .ref pL, .int rf, .int kd, .int md]))) (a2 : w nM = some (.inl (0, 8, .inr (.inl f)))) (a3 : LL g w cL D1 c1 6 h1) (a4 : ∀ i b, h1 i = some b → isRow w b) (a5 : LL g w pL D2 c2 n h2) (a8 : cL ≠ pL) (a9 : D1 ≠ D2) (hD : w D1 = some (.inl (5, c1, qc h1))) (hl : LPo g w w' pL D2 n' H) (hn : n'.toInt ≤ 12) (hH : ∀ h', H h' → ∀ i : Nat, (i : Int) < n'.toInt → ∃ b, h' i = some b) : MM g w0 y nM kd w' := by
  obtain ⟨D', c', h', l1, l2, f1, f2, fD, hh⟩ := hl
  have hL := a5.1
  obtain ⟨mcp, hL⟩ := hL
  have nD : ∀ {a : Nat} {o : Ob}, w a = some o → (∀ z, o ≠ .inl (5, z)) → a ≠ D2 := fun ha ho e => by
    rcases a5.2.1 with ⟨k, -⟩ | ⟨-, -, k, -⟩
    · rw [e, k] at ha
      cases ha
      exact ho _ rfl
    · rw [e, k] at ha
      cases ha
  have mv : ∀ {a : Nat} {o : Ob}, w a = some o → (∀ z, o ≠ .inl (5, z)) → (∀ fs, o ≠ .inr (3, fs)) → w' a = some o := fun ha h5 h3 => f1 _ _ ha (ne_of ha hL (h3 _)) (nD ha h5)
  have rw1 : ∀ b, isRow w b → isRow w' b := fun b ⟨f0, hb⟩ => ⟨f0, mv hb (fun _ e => by cases e) (fun _ e => by cases e)⟩
  refine ⟨⟨cL, pL, D1, D', c1, c', th, rf, md, n', f, h1, h', mv a1 (fun _ e => by cases e) (fun _ e => by cases e), mv a2 (fun _ e => by cases e) (fun _ e => by cases e), ?_, fun i b z => rw1 b (a4 i b z), l1, l2, hn, a8, ?_, hH h' hh⟩, h.2.tr ⟨fun a o e1 e2 e3 => ?_, f2⟩⟩
  · refine a3.kp (fun fs e => f1 _ _ e a8 (nD e (fun _ e => by cases e))) (fun z e => f1 _ _ e (ne_of e hL (fun e => by cases e)) a9) (fun o e1 e2 => f2 _ _ e1 e2)
  · rcases fD with rfl | ⟨fD, -⟩
    · exact a9
    · intro e
      rw [e, fD] at hD
      cases hD
  · refine mv e1 (fun z e => ?_) (fun fs e => ?_)
    · subst e
      cases e3
    · subst e
      cases e3
end
end
/-! 64.pil1.lean.txt -/
section
section
variable {g : RO} {Q : Ot → Hw → Prop} {w0 w : Hw}
variable {y nM : Nat} {kd : Int32}
theorem pz_lt {a n : Int32} (h0 : 0 ≤ n.toInt ∧ n.toInt ≤ 12) (h : ¬ n - 1 < a) : a < n := by
  have z1' : (1 : Int32).toInt = 1 := rfl
  have e1 : (n - 1).toInt = n.toInt - 1 := by rw [i32_sub (by omega) (by omega), z1']
  have q := i32_nlt h
  exact i32_of_lt (by omega)
set_option maxHeartbeats 4000000 in
theorem lX3_seekNow_5 {a c n : Int32} {b : Nat} (hM : MM g w0 y nM kd w) (hC : CAt g w y a (some b)) (k0 : ¬ a < 0) (k1 : ¬ 5 < a) (hP : PN g w y n) (hQ : ∀ v : Int32, (v = -1 ∨ (¬ v < 0 ∧ v < n)) → Q (.inl (some (.int v))) w) : ∀ (d : Nat) (i3 : Int32) (i4 : Int32) (k m : Nat), ¬ i4 < 0 → (i3 = -1 ∨ (¬ i3 < 0 ∧ i3 < n)) → (n : Int32).toInt - i4.toInt ≤ (d : Int) → k ≤ 0 → m ≤ 0 → WP (MX3_seekNow g) Q (5, [some (.ref y), some (.int a), some (.int c), some (.int i3), some (.int i4)], [], w, k, m) := by
  intro d
  induction d with
  | zero =>
    intro i3 i4 k m z0 zi hm hk hs
    rw [eX3_seekNow_5]
    simp only [eX3_seekNow_7]
    with_reducible refine go_Y (by first | assumption | exact MMz.m (by assumption) | exact MM.fr (by first | assumption | exact MMz.m (by assumption)) (by assumption) | exact MM.ext' (by assumption) (by assumption) | exact (by assumption : ∀ f', MM g w0 y nM kd (upw _ nM (.inl (0, 8, .inr (.inl f'))))) _ | exact (by assumption : ∀ (th' rf' md' : Int32), MM g w0 y nM kd (upw _ y (.inr (7, [.int th', .ref nM, .ref _, .ref _, .int rf', .int kd, .int md'])))) _ _ _) (fun _ _ _ _ _ _ => ?_)
    simp only [eX3_seekNow_11, wt_nil, wt_int, g0, gS, ex1, Nat.add_zero]
    with_reducible refine And.intro ?_ ?_
    with_reducible exact gtP (by first | assumption | exact MMz.m (by assumption) | exact MM.fr (by first | assumption | exact MMz.m (by assumption)) (by assumption) | exact MM.ext' (by assumption) (by assumption) | exact (by assumption : ∀ f', MM g w0 y nM kd (upw _ nM (.inl (0, 8, .inr (.inl f'))))) _ | exact (by assumption : ∀ (th' rf' md' : Int32), MM g w0 y nM kd (upw _ y (.inr (7, [.int th', .ref nM, .ref _, .ref _, .int rf', .int kd, .int md'])))) _ _ _) (by first | assumption | exact isY.s | exact isY.fr (by assumption) (by assumption))
    with_reducible refine And.intro ?_ ?_
    omega
    with_reducible refine And.intro ?_ ?_
    with_reducible assumption
    with_reducible refine And.intro ?_ ?_
    with_reducible assumption
    with_reducible refine sSizeY (by assumption) (by first | assumption | exact isY.s | exact isY.fr (by assumption) (by assumption)) ?_
    simp only [eX3_seekNow_14, eX3_seekNow_17, eX3_seekNow_21, eX3_seekNow_64, ite_le, kx_l, tl_s]
    split
    with_reducible exact (ic_z (by assumption) (by assumption)).elim
    with_reducible refine And.intro ?_ ?_
    with_reducible assumption
    with_reducible refine And.intro ?_ ?_
    with_reducible assumption
    with_reducible exact hQ _ (by assumption)
  | succ d ih =>
    intro i3 i4 k m z0 zi hm hk hs
    rw [eX3_seekNow_5]
    simp only [eX3_seekNow_7]
    with_reducible refine go_Y (by first | assumption | exact MMz.m (by assumption) | exact MM.fr (by first | assumption | exact MMz.m (by assumption)) (by assumption) | exact MM.ext' (by assumption) (by assumption) | exact (by assumption : ∀ f', MM g w0 y nM kd (upw _ nM (.inl (0, 8, .inr (.inl f'))))) _ | exact (by assumption : ∀ (th' rf' md' : Int32), MM g w0 y nM kd (upw _ y (.inr (7, [.int th', .ref nM, .ref _, .ref _, .int rf', .int kd, .int md'])))) _ _ _) (fun _ _ _ _ _ _ => ?_)
    simp only [eX3_seekNow_11, wt_nil, wt_int, g0, gS, ex1, Nat.add_zero]
    with_reducible refine And.intro ?_ ?_
    with_reducible exact gtP (by first | assumption | exact MMz.m (by assumption) | exact MM.fr (by first | assumption | exact MMz.m (by assumption)) (by assumption) | exact MM.ext' (by assumption) (by assumption) | exact (by assumption : ∀ f', MM g w0 y nM kd (upw _ nM (.inl (0, 8, .inr (.inl f'))))) _ | exact (by assumption : ∀ (th' rf' md' : Int32), MM g w0 y nM kd (upw _ y (.inr (7, [.int th', .ref nM, .ref _, .ref _, .int rf', .int kd, .int md'])))) _ _ _) (by first | assumption | exact isY.s | exact isY.fr (by assumption) (by assumption))
    with_reducible refine And.intro ?_ ?_
    omega
    with_reducible refine And.intro ?_ ?_
    with_reducible assumption
    with_reducible refine And.intro ?_ ?_
    with_reducible assumption
    with_reducible refine sSizeY (by assumption) (by first | assumption | exact isY.s | exact isY.fr (by assumption) (by assumption)) ?_
    simp only [eX3_seekNow_14, eX3_seekNow_17, eX3_seekNow_21, eX3_seekNow_64, ite_le, kx_l, tl_s]
    split
    with_reducible refine go_Y (by first | assumption | exact MMz.m (by assumption) | exact MM.fr (by first | assumption | exact MMz.m (by assumption)) (by assumption) | exact MM.ext' (by assumption) (by assumption) | exact (by assumption : ∀ f', MM g w0 y nM kd (upw _ nM (.inl (0, 8, .inr (.inl f'))))) _ | exact (by assumption : ∀ (th' rf' md' : Int32), MM g w0 y nM kd (upw _ y (.inr (7, [.int th', .ref nM, .ref _, .ref _, .int rf', .int kd, .int md'])))) _ _ _) (fun _ _ _ _ _ _ => ?_)
    simp only [eX3_seekNow_23, wt_nil, g0, gS, ex1, Nat.add_zero]
    with_reducible refine And.intro ?_ ?_
    with_reducible exact gtP (by first | assumption | exact MMz.m (by assumption) | exact MM.fr (by first | assumption | exact MMz.m (by assumption)) (by assumption) | exact MM.ext' (by assumption) (by assumption) | exact (by assumption : ∀ f', MM g w0 y nM kd (upw _ nM (.inl (0, 8, .inr (.inl f'))))) _ | exact (by assumption : ∀ (th' rf' md' : Int32), MM g w0 y nM kd (upw _ y (.inr (7, [.int th', .ref nM, .ref _, .ref _, .int rf', .int kd, .int md'])))) _ _ _) (by first | assumption | exact isY.s | exact isY.fr (by assumption) (by assumption))
    with_reducible refine And.intro ?_ ?_
    omega
    with_reducible refine And.intro ?_ ?_
    with_reducible assumption
    with_reducible refine And.intro ?_ ?_
    with_reducible assumption
    with_reducible refine sGetP (by assumption) (by first | assumption | exact isY.s | exact isY.fr (by assumption) (by assumption)) (by assumption) (by assumption) (fun _ _ => ?_)
    simp only [eX3_seekNow_26R, eX3_seekNow_29, eX3_seekNow_33, kx_l, tl_s]
    with_reducible refine And.intro ?_ ?_
    with_reducible exact isRow.ca (by first | assumption | exact CAt.row (by assumption) | exact isRow.ext (by assumption) (by assumption))
    with_reducible refine go_Y (by first | assumption | exact MMz.m (by assumption) | exact MM.fr (by first | assumption | exact MMz.m (by assumption)) (by assumption) | exact MM.ext' (by assumption) (by assumption) | exact (by assumption : ∀ f', MM g w0 y nM kd (upw _ nM (.inl (0, 8, .inr (.inl f'))))) _ | exact (by assumption : ∀ (th' rf' md' : Int32), MM g w0 y nM kd (upw _ y (.inr (7, [.int th', .ref nM, .ref _, .ref _, .int rf', .int kd, .int md'])))) _ _ _) (fun _ _ _ _ _ _ => ?_)
    simp only [eX3_seekNow_34, wt_nil, wt_ref, g0, gS, ex1, Nat.add_zero]
    with_reducible refine And.intro ?_ ?_
    with_reducible exact gtC (by first | assumption | exact MMz.m (by assumption) | exact MM.fr (by first | assumption | exact MMz.m (by assumption)) (by assumption) | exact MM.ext' (by assumption) (by assumption) | exact (by assumption : ∀ f', MM g w0 y nM kd (upw _ nM (.inl (0, 8, .inr (.inl f'))))) _ | exact (by assumption : ∀ (th' rf' md' : Int32), MM g w0 y nM kd (upw _ y (.inr (7, [.int th', .ref nM, .ref _, .ref _, .int rf', .int kd, .int md'])))) _ _ _) (by first | assumption | exact isY.s | exact isY.fr (by assumption) (by assumption))
    with_reducible refine And.intro ?_ ?_
    omega
    with_reducible refine And.intro ?_ ?_
    with_reducible assumption
    with_reducible refine And.intro ?_ ?_
    with_reducible assumption
    with_reducible refine sGetY (by first | assumption | exact CAt.fr (by assumption) (by assumption)) (by first | assumption | exact isY.s | exact isY.fr (by assumption) (by assumption)) (by assumption) (by first | assumption | exact lt65 (by assumption)) ?_
    simp only [eX3_seekNow_37R, eX3_seekNow_40RR, kx_l, wt_nil, tl_s, Nat.add_zero]
    with_reducible refine And.intro ?_ ?_
    with_reducible exact isRow.ca (by first | assumption | exact CAt.row (by assumption) | exact isRow.ext (by assumption) (by assumption))
    with_reducible refine And.intro ?_ ?_
    omega
    with_reducible refine And.intro ?_ ?_
    with_reducible assumption
    with_reducible refine And.intro ?_ ?_
    with_reducible assumption
    with_reducible refine sX3_same (by first | assumption | exact CAt.row (by assumption) | exact isRow.ext (by assumption) (by assumption)) (by first | assumption | exact CAt.row (by assumption) | exact isRow.ext (by assumption) (by assumption)) (fun _ _ => ?_)
    simp only [eX3_seekNow_43, eX3_seekNow_46, eX3_seekNow_50, eX3_seekNow_55, eX3_seekNow_58, kx_l, nl_int, tl_s]
    split
    with_reducible exact ih _ _ _ _ (ic_p (by assumption) (by assumption)) (by first | assumption | exact Or.inr ⟨by assumption, by assumption⟩) (ic_s (by assumption) (by assumption)) (by first | assumption | omega) (by first | assumption | omega)
    split
    split
    with_reducible exact ih _ _ _ _ (ic_p (by assumption) (by assumption)) (by first | assumption | exact Or.inr ⟨by assumption, by assumption⟩) (ic_s (by assumption) (by assumption)) (by first | assumption | omega) (by first | assumption | omega)
    with_reducible exact ih _ _ _ _ (ic_p (by assumption) (by assumption)) (by first | assumption | exact Or.inr ⟨by assumption, by assumption⟩) (ic_s (by assumption) (by assumption)) (by first | assumption | omega) (by first | assumption | omega)
    with_reducible exact ih _ _ _ _ (ic_p (by assumption) (by assumption)) (by first | assumption | exact Or.inr ⟨by assumption, by assumption⟩) (ic_s (by assumption) (by assumption)) (by first | assumption | omega) (by first | assumption | omega)
    with_reducible refine And.intro ?_ ?_
    with_reducible assumption
    with_reducible refine And.intro ?_ ?_
    with_reducible assumption
    with_reducible exact hQ _ (by assumption)
set_option maxHeartbeats 4000000 in
theorem sX3_seekNow {a c n : Int32} {b : Nat} (hM : MM g w0 y nM kd w) (hC : CAt g w y a (some b)) (k0 : ¬ a < 0) (k1 : ¬ 5 < a) (hP : PN g w y n) (hQ : ∀ v : Int32, (v = -1 ∨ (¬ v < 0 ∧ v < n)) → Q (.inl (some (.int v))) w) : WP (MX3_seekNow g) Q (0, [some (.ref y), some (.int a), some (.int c), none, none], [], w, 0, 0) := by
  simp only [eX3_seekNow_0, nl_int]
  with_reducible exact lX3_seekNow_5 hM hC k0 k1 hP hQ 70 _ _ _ _ (by first | decide | assumption) (Or.inl rfl) hP.m (by first | decide | omega) (by first | decide | omega)
set_option maxHeartbeats 4000000 in
theorem lX3_isAhead_4 {a n : Int32} (hM : MM g w0 y nM kd w) (hP : PN g w y n) (k0 : ¬ a < 0) (k1 : a < n) (hQ : ∀ v : Int32, Q (.inl (some (.int v))) w) : ∀ (d : Nat) (i2 : Int32) (i3 : Int32) (k m : Nat), ¬ i3 < 0 → (i2 = 0 ∨ i2 = 1) → (a : Int32).toInt - i3.toInt ≤ (d : Int) → k ≤ 0 → m ≤ 0 → WP (MX3_isAhead g) Q (4, [some (.ref y), some (.int a), some (.int i2), some (.int i3)], [], w, k, m) := by
  intro d
  induction d with
  | zero =>
    intro i2 i3 k m z0 zi hm hk hs
    rw [eX3_isAhead_4]
    simp only [eX3_isAhead_5, eX3_isAhead_9, eX3_isAhead_14, eX3_isAhead_43, ite_le]
    split
    with_reducible exact (ic_z (by assumption) (by assumption)).elim
    with_reducible refine And.intro ?_ ?_
    with_reducible exact nbz (by assumption)
    with_reducible refine And.intro ?_ ?_
    with_reducible assumption
    with_reducible refine And.intro ?_ ?_
    with_reducible assumption
    with_reducible exact hQ _
  | succ d ih =>
    intro i2 i3 k m z0 zi hm hk hs
    rw [eX3_isAhead_4]
    simp only [eX3_isAhead_5, eX3_isAhead_9, eX3_isAhead_14, eX3_isAhead_43, ite_le]
    split
    with_reducible refine go_Y (by first | assumption | exact MMz.m (by assumption) | exact MM.fr (by first | assumption | exact MMz.m (by assumption)) (by assumption) | exact MM.ext' (by assumption) (by assumption) | exact (by assumption : ∀ f', MM g w0 y nM kd (upw _ nM (.inl (0, 8, .inr (.inl f'))))) _ | exact (by assumption : ∀ (th' rf' md' : Int32), MM g w0 y nM kd (upw _ y (.inr (7, [.int th', .ref nM, .ref _, .ref _, .int rf', .int kd, .int md'])))) _ _ _) (fun _ _ _ _ _ _ => ?_)
    simp only [eX3_isAhead_15, wt_nil, wt_int, g0, gS, ex1, Nat.add_zero]
    with_reducible refine And.intro ?_ ?_
    with_reducible exact gtP (by first | assumption | exact MMz.m (by assumption) | exact MM.fr (by first | assumption | exact MMz.m (by assumption)) (by assumption) | exact MM.ext' (by assumption) (by assumption) | exact (by assumption : ∀ f', MM g w0 y nM kd (upw _ nM (.inl (0, 8, .inr (.inl f'))))) _ | exact (by assumption : ∀ (th' rf' md' : Int32), MM g w0 y nM kd (upw _ y (.inr (7, [.int th', .ref nM, .ref _, .ref _, .int rf', .int kd, .int md'])))) _ _ _) (by first | assumption | exact isY.s | exact isY.fr (by assumption) (by assumption))
    with_reducible refine And.intro ?_ ?_
    omega
    with_reducible refine And.intro ?_ ?_
    with_reducible assumption
    with_reducible refine And.intro ?_ ?_
    with_reducible assumption
    with_reducible refine sGetP (by assumption) (by first | assumption | exact isY.s | exact isY.fr (by assumption) (by assumption)) (by assumption) (by first | assumption | exact Int32.lt_trans (by assumption) (by assumption)) (fun _ _ => ?_)
    simp only [eX3_isAhead_18R, eX3_isAhead_21, eX3_isAhead_25, kx_l, tl_s]
    with_reducible refine And.intro ?_ ?_
    with_reducible exact isRow.ca (by first | assumption | exact CAt.row (by assumption) | exact isRow.ext (by assumption) (by assumption))
    with_reducible refine go_Y (by first | assumption | exact MMz.m (by assumption) | exact MM.fr (by first | assumption | exact MMz.m (by assumption)) (by assumption) | exact MM.ext' (by assumption) (by assumption) | exact (by assumption : ∀ f', MM g w0 y nM kd (upw _ nM (.inl (0, 8, .inr (.inl f'))))) _ | exact (by assumption : ∀ (th' rf' md' : Int32), MM g w0 y nM kd (upw _ y (.inr (7, [.int th', .ref nM, .ref _, .ref _, .int rf', .int kd, .int md'])))) _ _ _) (fun _ _ _ _ _ _ => ?_)
    simp only [eX3_isAhead_26, wt_nil, wt_int, wt_ref, g0, gS, ex1, Nat.add_zero]
    with_reducible refine And.intro ?_ ?_
    with_reducible exact gtP (by first | assumption | exact MMz.m (by assumption) | exact MM.fr (by first | assumption | exact MMz.m (by assumption)) (by assumption) | exact MM.ext' (by assumption) (by assumption) | exact (by assumption : ∀ f', MM g w0 y nM kd (upw _ nM (.inl (0, 8, .inr (.inl f'))))) _ | exact (by assumption : ∀ (th' rf' md' : Int32), MM g w0 y nM kd (upw _ y (.inr (7, [.int th', .ref nM, .ref _, .ref _, .int rf', .int kd, .int md'])))) _ _ _) (by first | assumption | exact isY.s | exact isY.fr (by assumption) (by assumption))
    with_reducible refine And.intro ?_ ?_
    omega
    with_reducible refine And.intro ?_ ?_
    with_reducible assumption
    with_reducible refine And.intro ?_ ?_
    with_reducible assumption
    with_reducible refine sGetP (by assumption) (by first | assumption | exact isY.s | exact isY.fr (by assumption) (by assumption)) (by assumption) (by first | assumption | exact Int32.lt_trans (by assumption) (by assumption)) (fun _ _ => ?_)
    simp only [eX3_isAhead_29R, eX3_isAhead_32RR, kx_l, wt_nil, wt_int, tl_s, Nat.add_zero]
    with_reducible refine And.intro ?_ ?_
    with_reducible exact isRow.ca (by first | assumption | exact CAt.row (by assumption) | exact isRow.ext (by assumption) (by assumption))
    with_reducible refine And.intro ?_ ?_
    omega
    with_reducible refine And.intro ?_ ?_
    with_reducible assumption
    with_reducible refine And.intro ?_ ?_
    with_reducible assumption
    with_reducible refine sX3_same (by first | assumption | exact CAt.row (by assumption) | exact isRow.ext (by assumption) (by assumption)) (by first | assumption | exact CAt.row (by assumption) | exact isRow.ext (by assumption) (by assumption)) (fun _ _ => ?_)
    simp only [eX3_isAhead_35, kx_l, nl_int, tl_s]
    with_reducible exact ih _ _ _ _ (ic_p (by assumption) (by assumption)) (by first | assumption | exact bor (by assumption) (by assumption)) (ic_s (by assumption) (by assumption)) (by first | assumption | omega) (by first | assumption | omega)
    with_reducible refine And.intro ?_ ?_
    with_reducible exact nbz (by assumption)
    with_reducible refine And.intro ?_ ?_
    with_reducible assumption
    with_reducible refine And.intro ?_ ?_
    with_reducible assumption
    with_reducible exact hQ _
theorem pz_m {a n : Int32} (hP : PN g w y n) (h : a < n) : (a : Int32).toInt - (0 : Int32).toInt ≤ ((70 : Nat) : Int) := by
  have k := hP.bd
  have q := i32_lt h
  have e : (0 : Int32).toInt = 0 := rfl
  omega
set_option maxHeartbeats 4000000 in
theorem sX3_isAhead {a n : Int32} (hM : MM g w0 y nM kd w) (hP : PN g w y n) (k0 : ¬ a < 0) (k1 : a < n) (hQ : ∀ v : Int32, Q (.inl (some (.int v))) w) : WP (MX3_isAhead g) Q (0, [some (.ref y), some (.int a), none, none], [], w, 0, 0) := by
  simp only [eX3_isAhead_0, nl_int]
  with_reducible exact lX3_isAhead_4 hM hP k0 k1 hQ 70 _ _ _ _ (by first | decide | assumption) (Or.inl rfl) (pz_m hP (by assumption)) (by first | decide | omega) (by first | decide | omega)
end
end
/-! 64.pil2.lean.txt -/
section
section
variable {g : RO} {Q : Ot → Hw → Prop} {w0 w : Hw}
variable {y nM : Nat} {kd : Int32}
theorem sX3_seekNowM {a c : Int32} {b : Nat} (hM : MM g w0 y nM kd w) (hC : CAt g w y a (some b)) (k0 : ¬ a < 0) (k1 : ¬ 5 < a) (hQ : ∀ n v : Int32, PN g w y n → (v = -1 ∨ (¬ v < 0 ∧ v < n)) → Q (.inl (some (.int v))) w) : WP (MX3_seekNow g) Q (0, [some (.ref y), some (.int a), some (.int c), none, none], [], w, 0, 0) := by
  obtain ⟨n, hP⟩ := PN.ofM hM
  exact sX3_seekNow hM hC k0 k1 hP (fun v hv => hQ n v hP hv)
end
end
/-! 64.pil3.lean.txt -/
section
section
variable {g : RO} {Q : Ot → Hw → Prop} {w0 w : Hw}
variable {y nM : Nat} {kd : Int32}
theorem LL.ext {L D cap : Nat} {n : Int32} {h : Nat → Option Nat} {w' : Hw} (hl : LL g w L D cap n h) (k : ext g w w') : LL g w' L D cap n h := hl.kp (fun fs e => k.1 _ _ e) (fun z e => k.1 _ _ e) (fun o e1 e2 => k.2 _ o e1 e2)
theorem LL.rD {L D cap : Nat} {n : Int32} {h : Nat → Option Nat} (hl : LL g w L D cap n h) : rd g w D = some (.inl (5, cap, qc h)) := by
  obtain ⟨mc, q1, q2, q3, -⟩ := hl.opn
  exact q3
theorem LL.c15 {L D cap : Nat} {n : Int32} {h : Nat → Option Nat} (hl : LL g w L D cap n h) : cap ≤ 15 := by
  rcases hl.2.1 with ⟨-, k⟩ | ⟨k, -⟩ <;> omega
theorem sInitF {w1 : Hw} {q : Nat} (hE : EG g w1) (hq : rd g w1 q = none) (hQ : ∀ D w', ext g w1 w' → LL g w' q D 0 0 (fun _ => none) → w1 D = none → Q (.inl none) w') : WP (MJx4a65c_init_da8c8 g) Q (0, [some (.ref q)], [], upw w1 q (.inr (3, [.int 0, .null, .int 0])), 0, 0) := by
  have hqn := rd_none hq
  have hE' : EG g (upw w1 q (.inr (3, [.int 0, .null, .int 0]))) := hE.ext (ext_up2 ext.rf hq)
  refine sJx4a65c_init hE' (upw_s _ _ _) (fun D w' f1 f2 hl => ?_)
  have k : ext g w1 w' := by
    refine ⟨fun a o e => ?_, fun a o e1 e2 => ?_⟩
    · have hne : a ≠ q := fun z => by
        rw [z, hqn] at e
        cases e
      exact f1 a o (by rw [upw_n hne]; exact e) hne
    · have hne : a ≠ q := fun z => by
        rw [z, rd_ro hq] at e1
        cases e1
      exact f2 a o e1 (by rw [upw_n hne]; exact e2)
  refine hQ D w' k hl ?_
  rcases hl.2.1 with ⟨-, z⟩ | ⟨-, -, z, -⟩
  · omega
  · cases hw : w1 D with
    | none => rfl
    | some o =>
      rw [k.1 _ _ hw] at z
      cases z
theorem n00' : (0 : Int32).toInt ≤ 12 := by decide
theorem nr0 : ∀ (i b : Nat), (fun _ => none : Nat → Option Nat) i = some b → isRow w b := fun _ _ e => by cases e
end
end
/-! 64.pil4.lean.txt -/
section
section
variable {g : RO} {Q : Ot → Hw → Prop} {w0 w : Hw}
variable {y nM : Nat} {kd : Int32}
theorem itl {c n : Int32} (h1 : ¬ c = n) (h2 : c.toInt ≤ n.toInt) : c.toInt < n.toInt := by
  rcases (by omega : c.toInt < n.toInt ∨ n.toInt ≤ c.toInt) with k | k
  · exact k
  · exact absurd (Int32.toInt_inj.mp (by omega)) h1
theorem itz {c n : Int32} (h1 : ¬ c = n) (h2 : c.toInt ≤ n.toInt) (h3 : n.toInt - c.toInt ≤ ((0 : Nat) : Int)) : False := by
  have := itl h1 h2
  omega
theorem itn {c n : Int32} {h : Nat → Option Nat} (hnn : ∀ i : Nat, (i : Int) < n.toInt → ∃ b, h i = some b) (h0 : 0 ≤ c.toInt) (h1 : c.toInt < n.toInt) (e : h c.toNatClampNeg = none) : False := by
  obtain ⟨b, hb⟩ := hnn c.toNatClampNeg (by
    have t : c.toNatClampNeg = c.toInt.toNat := rfl
    omega)
  rw [e] at hb
  cases hb
theorem its {c n : Int32} (h0 : 0 ≤ c.toInt) (h1 : ¬ c = n) (h2 : c.toInt ≤ n.toInt) (hn : n.toInt ≤ 15) : (c + 1).toInt = c.toInt + 1 ∧ c.toInt < n.toInt := by
  have := itl h1 h2
  exact ⟨i32p1 h0 (by omega), this⟩
theorem LL.n0 {L D cap : Nat} {n : Int32} {h : Nat → Option Nat} (hl : LL g w L D cap n h) : 0 ≤ n.toInt := hl.2.2.1
theorem LL.nc {L D cap : Nat} {n : Int32} {h : Nat → Option Nat} (hl : LL g w L D cap n h) : n.toInt ≤ (cap : Int) := hl.2.2.2
theorem LL.nq {L D cap q : Nat} {n : Int32} {h : Nat → Option Nat} (hl : LL g w L D cap n h) (hq : rd g w q = none) (o : Ob) : LL g (upw w q o) L D cap n h := hl.ext (ext_up2 ext.rf hq)
theorem go_YE {K : List Value → Prop} {fs : List Value} (a1 : w y = some (.inr (7, fs))) (k : K fs) : go (rd g w y) 7 K := by
  rw [rd_e a1, go_s]
  exact k
set_option maxHeartbeats 4000000 in
theorem lX3_oftenNow_10 {a n mc : Int32} {b L D2 c2 q : Nat} {h2 : Nat → Option Nat} (hM : MM g w0 y nM kd w) (hC : CAt g w y a (some b)) (k0 : ¬ a < 0) (k1 : ¬ 5 < a) (hL : w L = some (.inr (3, [.int mc, .ref D2, .int n]))) (hl : LL g w L D2 c2 n h2) (hr : ∀ i b, h2 i = some b → isRow w b) (hnn : ∀ i : Nat, (i : Int) < n.toInt → ∃ b, h2 i = some b) (hn : n.toInt ≤ 12) (hq : rd g w q = none) (hQ : ∀ (v : Int32) w', ext g w w' → Q (.inl (some (.int v))) w') : ∀ (d : Nat) (i2 c lr : Int32) (o4 : Option Value) (k m : Nat), n.toInt - c.toInt ≤ (d : Int) → 0 ≤ c.toInt → c.toInt ≤ n.toInt → k ≤ 1 → m ≤ 4 → WP (MX3_oftenNow g) Q (10, [some (.ref y), some (.int a), some (.int i2), some (.ref q), o4], [], upw w q (.inr (2, [.int c, .int lr, .int mc, .ref L])), k, m) := by
  have hLq : ∀ o, upw w q o L = some (.inr (3, [.int mc, .ref D2, .int n])) := fun o => (ext_up2 ext.rf hq).1 _ _ hL
  intro d
  induction d with
  | zero =>
    intro i2 c lr o4 k m hm c0 c1 hk hs
    rw [eX3_oftenNow_10]
    simp only [eX3_oftenNow_11, go_s, wt_nil, true_and, rd_s, Nat.add_zero]
    with_reducible refine And.intro ?_ ?_
    omega
    with_reducible refine And.intro ?_ ?_
    with_reducible assumption
    with_reducible refine And.intro ?_ ?_
    with_reducible assumption
    with_reducible refine sJx35411_hasNext_aae02 (cap := 0) (upw_s _ _ _) (hLq _) (fun _ => ?_) (fun _ => ?_)
    simp only [eX3_oftenNow_16, eX3_oftenNow_19, eX3_oftenNow_20, eX3_oftenNow_55, kx_l, go_s, wt_nil, tl_s, true_and, rd_s, Nat.add_zero, if_true]
    with_reducible refine And.intro ?_ ?_
    with_reducible assumption
    with_reducible refine And.intro ?_ ?_
    with_reducible assumption
    with_reducible exact hQ _ _ (by first | assumption | exact ext.rf | exact ext_up2 ext.rf (by assumption) | exact ext_up2 (by assumption) (by assumption) | exact ext_up2 (ext_up2 ext.rf (by assumption)) (by assumption))
    with_reducible exact (itz (by assumption) (by assumption) (by assumption)).elim
  | succ d ih =>
    intro i2 c lr o4 k m hm c0 c1 hk hs
    rw [eX3_oftenNow_10]
    simp only [eX3_oftenNow_11, go_s, wt_nil, true_and, rd_s, Nat.add_zero]
    with_reducible refine And.intro ?_ ?_
    omega
    with_reducible refine And.intro ?_ ?_
    with_reducible assumption
    with_reducible refine And.intro ?_ ?_
    with_reducible assumption
    with_reducible refine sJx35411_hasNext_aae02 (cap := 0) (upw_s _ _ _) (hLq _) (fun _ => ?_) (fun _ => ?_)
    simp only [eX3_oftenNow_16, eX3_oftenNow_19, eX3_oftenNow_20, eX3_oftenNow_55, kx_l, go_s, wt_nil, tl_s, true_and, rd_s, Nat.add_zero, if_true]
    with_reducible refine And.intro ?_ ?_
    with_reducible assumption
    with_reducible refine And.intro ?_ ?_
    with_reducible assumption
    with_reducible exact hQ _ _ (by first | assumption | exact ext.rf | exact ext_up2 ext.rf (by assumption) | exact ext_up2 (by assumption) (by assumption) | exact ext_up2 (ext_up2 ext.rf (by assumption)) (by assumption))
    simp only [eX3_oftenNow_16, eX3_oftenNow_19, eX3_oftenNow_20, eX3_oftenNow_55, kx_l, go_s, wt_nil, tl_s, true_and, rd_s, Nat.add_zero, if_false, m10]
    with_reducible refine And.intro ?_ ?_
    omega
    with_reducible refine And.intro ?_ ?_
    with_reducible assumption
    with_reducible refine And.intro ?_ ?_
    with_reducible assumption
    with_reducible refine sJx35411_next_0502b (upw_s _ _ _) (hLq _) (hl.nq hq _).rD (by assumption) (itl (by assumption) (by assumption)) hl.nc hl.c15 (fun e => (itn hnn (by assumption) (itl (by assumption) (by assumption)) e).elim) (fun _ _ => ?_)
    simp only [eX3_oftenNow_25R, eX3_oftenNow_28, eX3_oftenNow_30, eX3_oftenNow_31, eX3_oftenNow_33, eX3_oftenNow_34, eX3_oftenNow_37, kx_l, nl_ref, tl_s, upw2q]
    with_reducible refine And.intro ?_ ?_
    with_reducible exact isRow.ca (by first | assumption | exact CAt.row (by assumption) | exact (hr _ _ (by assumption)).ext (ext_up2 ext.rf hq) | exact (CAt.row hC).ext (ext_up2 ext.rf hq) | exact isRow.ext (by assumption) (ext_up2 ext.rf (by assumption)))
    with_reducible refine go_Y (hM.ext' (by first | assumption | exact ext.rf | exact ext_up2 ext.rf (by assumption) | exact ext_up2 (by assumption) (by assumption) | exact ext_up2 (ext_up2 ext.rf (by assumption)) (by assumption))) (fun _ _ _ _ _ _ => ?_)
    simp only [eX3_oftenNow_38, wt_nil, wt_int, wt_ref, g0, gS, ex1, Nat.add_zero]
    with_reducible refine And.intro ?_ ?_
    with_reducible exact gtC (hM.ext' (by first | assumption | exact ext.rf | exact ext_up2 ext.rf (by assumption) | exact ext_up2 (by assumption) (by assumption) | exact ext_up2 (ext_up2 ext.rf (by assumption)) (by assumption))) (by first | assumption | exact isY.s | exact isY.fr (by assumption) (by assumption))
    with_reducible refine And.intro ?_ ?_
    omega
    with_reducible refine And.intro ?_ ?_
    with_reducible assumption
    with_reducible refine And.intro ?_ ?_
    with_reducible assumption
    with_reducible refine sGetY (hC.fr hq) (by first | assumption | exact isY.s | exact isY.fr (by assumption) (by assumption)) k0 k1 ?_
    simp only [eX3_oftenNow_41R, eX3_oftenNow_44RR, kx_l, wt_nil, wt_int, tl_s, Nat.add_zero]
    with_reducible refine And.intro ?_ ?_
    with_reducible exact isRow.ca (by first | assumption | exact CAt.row (by assumption) | exact (hr _ _ (by assumption)).ext (ext_up2 ext.rf hq) | exact (CAt.row hC).ext (ext_up2 ext.rf hq) | exact isRow.ext (by assumption) (ext_up2 ext.rf (by assumption)))
    with_reducible refine And.intro ?_ ?_
    omega
    with_reducible refine And.intro ?_ ?_
    with_reducible assumption
    with_reducible refine And.intro ?_ ?_
    with_reducible assumption
    with_reducible refine sX3_same (by first | assumption | exact CAt.row (by assumption) | exact (hr _ _ (by assumption)).ext (ext_up2 ext.rf hq) | exact (CAt.row hC).ext (ext_up2 ext.rf hq) | exact isRow.ext (by assumption) (ext_up2 ext.rf (by assumption))) (by first | assumption | exact CAt.row (by assumption) | exact (hr _ _ (by assumption)).ext (ext_up2 ext.rf hq) | exact (CAt.row hC).ext (ext_up2 ext.rf hq) | exact isRow.ext (by assumption) (ext_up2 ext.rf (by assumption))) (fun _ _ => ?_)
    simp only [eX3_oftenNow_47, kx_l, wt_nil, wt_int, tl_s, Nat.add_zero]
    with_reducible refine And.intro ?_ ?_
    omega
    with_reducible refine And.intro ?_ ?_
    with_reducible assumption
    with_reducible refine And.intro ?_ ?_
    with_reducible assumption
    with_reducible refine sX3_one (fun _ => ?_)
    simp only [eX3_oftenNow_50, kx_l, nl_int, tl_s]
    with_reducible exact ih _ _ _ _ _ _ (by have e := its (n := n) (by assumption) (by assumption) (by assumption) (by omega); omega) (by have e := its (n := n) (by assumption) (by assumption) (by assumption) (by omega); omega) (by have e := its (n := n) (by assumption) (by assumption) (by assumption) (by omega); omega) (by first | assumption | omega) (by first | assumption | omega)
set_option maxHeartbeats 4000000 in
theorem sX3_oftenNow {a : Int32} {b : Nat} (hM : MM g w0 y nM kd w) (hC : CAt g w y a (some b)) (k0 : ¬ a < 0) (k1 : ¬ 5 < a) (hQ : ∀ (v : Int32) w', ext g w w' → Q (.inl (some (.int v))) w') : WP (MX3_oftenNow g) Q (0, [some (.ref y), some (.int a), none, none, none], [], w, 0, 0) := by
  obtain ⟨cL0, pL0, D1, D2, c1, c2, th, rf, md, n, f, h1, h2, a1, a2, a3, a4, a5, a6, a7, a8, a9, b1⟩ := hM.1
  simp only [eX3_oftenNow_0, eX3_oftenNow_2, eX3_oftenNow_3, nl_int]
  with_reducible refine go_YE a1 ?_
  simp only [eX3_oftenNow_6, wt_nil, g0, gS, ex1, Nat.zero_add]
  with_reducible refine And.intro ?_ ?_
  with_reducible exact a5.gt
  with_reducible refine And.intro ?_ ?_
  omega
  with_reducible refine And.intro ?_ ?_
  omega
  with_reducible refine And.intro ?_ ?_
  omega
  with_reducible refine sJx4a65c_iterator_32c93 a5 (fun _ _ _ _ => ?_)
  simp only [eX3_oftenNow_9, kx_l, nl_int, tl_s]
  with_reducible exact lX3_oftenNow_10 hM hC k0 k1 (by assumption) a5 a6 b1 a7 (by assumption) hQ 70 _ _ _ _ _ _ (by have e := a5.n0; have z : (0 : Int32).toInt = 0 := rfl; omega) (by decide) (by have e := a5.n0; have z : (0 : Int32).toInt = 0 := rfl; omega) (by first | decide | omega) (by first | decide | omega)
end
end
/-! 66.class00.lean.txt -/
section
theorem qx_cX1_needNumber_0 : ((cX1_needNumber.data.toList.drop 0).take 38).map UInt8.toNat = [26, 155, 0, 9, 26, 16, 8, 161, 0, 13, 187, 0, 240, 89, 18, 242, 183, 0, 244, 191, 177] := by decide +kernel
theorem dX1_needNumber_10 : decode cX1_needNumber 10 = .ok (.new 240, 3) := (oy_187 qx_cX1_needNumber_0 10 0 240 rfl rfl rfl rfl)
theorem dX1_needNumber_13 : decode cX1_needNumber 13 = .ok (.dup, 1) := (oy_89 qx_cX1_needNumber_0 13 rfl)
theorem dX1_needNumber_14 : decode cX1_needNumber 14 = .ok (.ldc 242, 2) := (oy_18 qx_cX1_needNumber_0 14 242 rfl rfl)
theorem dX1_needNumber_16 : decode cX1_needNumber 16 = .ok (.invokespecial 244, 3) := (oy_183 qx_cX1_needNumber_0 16 0 244 rfl rfl rfl rfl)
theorem dX1_needNumber_19 : decode cX1_needNumber 19 = .ok (.athrow, 1) := (oy_191 qx_cX1_needNumber_0 19 rfl)
noncomputable def MX1_needNumber (g : RO) : MT := ((RX1, cX1_needNumber, 1, 6, 1, 6, false, none), [], [], [], [], [(10, "java/lang/IndexOutOfBoundsException")], 0, [], [], [], 0, [], [], g)
theorem eX1_needNumber_0 {g : RO} {Q : Ot → Hw → Prop} {w : Hw} {a : Int32} {st : List Value} {k n : Nat} : WP (MX1_needNumber g) Q (Prod.mk 0 (Prod.mk (List.cons (Option.some (Value.int a)) List.nil) (Prod.mk st (Prod.mk w (Prod.mk k n))))) = if a < 0 then WP (MX1_needNumber g) Q (Prod.mk 10 (Prod.mk (List.cons (Option.some (Value.int a)) List.nil) (Prod.mk st (Prod.mk w (Prod.mk k n))))) else WP (MX1_needNumber g) Q (Prod.mk 4 (Prod.mk (List.cons (Option.some (Value.int a)) List.nil) (Prod.mk st (Prod.mk w (Prod.mk k n))))) := Eq.trans (iln_e rfl (oy_26 qx_cX1_needNumber_0 0 rfl) rfl) (ifc_e (a < 0) rfl (oy_155 qx_cX1_needNumber_0 1 0 9 rfl rfl rfl rfl) rfl (by decide))
theorem eX1_needNumber_4 {g : RO} {Q : Ot → Hw → Prop} {w : Hw} {a : Int32} {st : List Value} {k n : Nat} : WP (MX1_needNumber g) Q (Prod.mk 4 (Prod.mk (List.cons (Option.some (Value.int a)) List.nil) (Prod.mk st (Prod.mk w (Prod.mk k n))))) = if a < (8 : Int32) then WP (MX1_needNumber g) Q (Prod.mk 20 (Prod.mk (List.cons (Option.some (Value.int a)) List.nil) (Prod.mk st (Prod.mk w (Prod.mk k n))))) else WP (MX1_needNumber g) Q (Prod.mk 10 (Prod.mk (List.cons (Option.some (Value.int a)) List.nil) (Prod.mk st (Prod.mk w (Prod.mk k n))))) := Eq.trans (iln_e rfl (oy_26 qx_cX1_needNumber_0 4 rfl) rfl) (Eq.trans (bipush_e rfl (oy_16 qx_cX1_needNumber_0 5 8 rfl rfl rfl) (by decide)) (icm_e (a < (8 : Int32)) rfl (oy_161 qx_cX1_needNumber_0 7 0 13 rfl rfl rfl rfl) rfl (by decide)))
theorem eX1_needNumber_10 {g : RO} {Q : Ot → Hw → Prop} {st : List Value} {w : Hw} {k n : Nat} {l0 : Option Value} : WP (MX1_needNumber g) Q (Prod.mk 10 (Prod.mk (List.cons l0 List.nil) (Prod.mk st (Prod.mk w (Prod.mk k n))))) = (k + 1 ≤ 1 ∧ n + 6 ≤ 6 ∧ wt st ≤ 8 ∧ 6 ≤ 6 ∧ Q (.inr "java/lang/IndexOutOfBoundsException") w) := WP_thr rfl rfl
theorem eX1_needNumber_20 {g : RO} {Q : Ot → Hw → Prop} {w : Hw} {k n : Nat} {l0 : Option Value} : WP (MX1_needNumber g) Q (Prod.mk 20 (Prod.mk (List.cons l0 List.nil) (Prod.mk List.nil (Prod.mk w (Prod.mk k n))))) = (k ≤ 1 ∧ n ≤ 6 ∧ Q (.inl none) w) := vret_e rfl (oy_177 qx_cX1_needNumber_0 20 rfl) rfl
theorem vX_RX1_240_244 : ∀ w ∈ vx_atS RX1 244 "java/lang/IndexOutOfBoundsException" exNames, ((w ∈ lw_tbl ∧ (goodWord w || isNW w) = true) ∨ w = .castable "java/lang/IndexOutOfBoundsException" "java/lang/IndexOutOfBoundsException") ∧ vx_ot w = true := by decide +kernel
theorem wk_356 : (.classLink RX1 240 "java/lang/IndexOutOfBoundsException" : Jvm.Cond) ∈ WS := WS_t2 58 (by eq_refl) (by eq_refl)
theorem wk_72 : (.initialized "java/lang/IndexOutOfBoundsException" : Jvm.Cond) ∈ WS := WS_t1 14 (by eq_refl) (by eq_refl)
theorem vMX1_needNumber {l : Launch} (hl : l.stackTraces = false) (G : GT) : vM l G (MX1_needNumber (gg G)) := vM_k RX1 cX1_needNumber rfl rfl all_n all_n all_n all_n (all_c (⟨240, 242, 244, "no such number", by decide, by decide +kernel, wk_356, wk_72, vX_RX1_240_244, by decide, dX1_needNumber_10, dX1_needNumber_13, dX1_needNumber_14, dX1_needNumber_16, dX1_needNumber_19⟩) (all_n)) (fun h => absurd rfl h) all_n all_n all_n (fun h => absurd rfl h) rfl all_n
theorem pn16 : plainName RX1 = true := by decide
theorem okX1_needNumber {l : Launch} (hl : l.stackTraces = false) {G : GT} : ∀ (args : List Value) (w : Hw) (S : Ot → Hw → Prop), spOf (MX1_needNumber (gg G)) args w S → CX l G yX1_needNumber (.code yX1_needNumber cX1_needNumber 1 (none)) 6 1 6 args w S := CX_sp (M := MX1_needNumber (gg G)) (y := yX1_needNumber) hl pn16 rfl (vMX1_needNumber hl G) (fun h => by cases h) rfl
theorem qx_cX1_needCard_0 : ((cX1_needCard.data.toList.drop 0).take 38).map UInt8.toNat = [26, 155, 0, 9, 26, 16, 6, 161, 0, 13, 187, 0, 240, 89, 18, 245, 183, 0, 244, 191, 177] := by decide +kernel
theorem dX1_needCard_10 : decode cX1_needCard 10 = .ok (.new 240, 3) := (oy_187 qx_cX1_needCard_0 10 0 240 rfl rfl rfl rfl)
theorem dX1_needCard_13 : decode cX1_needCard 13 = .ok (.dup, 1) := (oy_89 qx_cX1_needCard_0 13 rfl)
theorem dX1_needCard_14 : decode cX1_needCard 14 = .ok (.ldc 245, 2) := (oy_18 qx_cX1_needCard_0 14 245 rfl rfl)
theorem dX1_needCard_16 : decode cX1_needCard 16 = .ok (.invokespecial 244, 3) := (oy_183 qx_cX1_needCard_0 16 0 244 rfl rfl rfl rfl)
theorem dX1_needCard_19 : decode cX1_needCard 19 = .ok (.athrow, 1) := (oy_191 qx_cX1_needCard_0 19 rfl)
noncomputable def MX1_needCard (g : RO) : MT := ((RX1, cX1_needCard, 1, 6, 1, 6, false, none), [], [], [], [], [(10, "java/lang/IndexOutOfBoundsException")], 0, [], [], [], 0, [], [], g)
theorem eX1_needCard_0 {g : RO} {Q : Ot → Hw → Prop} {w : Hw} {a : Int32} {st : List Value} {k n : Nat} : WP (MX1_needCard g) Q (Prod.mk 0 (Prod.mk (List.cons (Option.some (Value.int a)) List.nil) (Prod.mk st (Prod.mk w (Prod.mk k n))))) = if a < 0 then WP (MX1_needCard g) Q (Prod.mk 10 (Prod.mk (List.cons (Option.some (Value.int a)) List.nil) (Prod.mk st (Prod.mk w (Prod.mk k n))))) else WP (MX1_needCard g) Q (Prod.mk 4 (Prod.mk (List.cons (Option.some (Value.int a)) List.nil) (Prod.mk st (Prod.mk w (Prod.mk k n))))) := Eq.trans (iln_e rfl (oy_26 qx_cX1_needCard_0 0 rfl) rfl) (ifc_e (a < 0) rfl (oy_155 qx_cX1_needCard_0 1 0 9 rfl rfl rfl rfl) rfl (by decide))
theorem eX1_needCard_4 {g : RO} {Q : Ot → Hw → Prop} {w : Hw} {a : Int32} {st : List Value} {k n : Nat} : WP (MX1_needCard g) Q (Prod.mk 4 (Prod.mk (List.cons (Option.some (Value.int a)) List.nil) (Prod.mk st (Prod.mk w (Prod.mk k n))))) = if a < (6 : Int32) then WP (MX1_needCard g) Q (Prod.mk 20 (Prod.mk (List.cons (Option.some (Value.int a)) List.nil) (Prod.mk st (Prod.mk w (Prod.mk k n))))) else WP (MX1_needCard g) Q (Prod.mk 10 (Prod.mk (List.cons (Option.some (Value.int a)) List.nil) (Prod.mk st (Prod.mk w (Prod.mk k n))))) := Eq.trans (iln_e rfl (oy_26 qx_cX1_needCard_0 4 rfl) rfl) (Eq.trans (bipush_e rfl (oy_16 qx_cX1_needCard_0 5 6 rfl rfl rfl) (by decide)) (icm_e (a < (6 : Int32)) rfl (oy_161 qx_cX1_needCard_0 7 0 13 rfl rfl rfl rfl) rfl (by decide)))
theorem eX1_needCard_10 {g : RO} {Q : Ot → Hw → Prop} {st : List Value} {w : Hw} {k n : Nat} {l0 : Option Value} : WP (MX1_needCard g) Q (Prod.mk 10 (Prod.mk (List.cons l0 List.nil) (Prod.mk st (Prod.mk w (Prod.mk k n))))) = (k + 1 ≤ 1 ∧ n + 6 ≤ 6 ∧ wt st ≤ 8 ∧ 6 ≤ 6 ∧ Q (.inr "java/lang/IndexOutOfBoundsException") w) := WP_thr rfl rfl
theorem eX1_needCard_20 {g : RO} {Q : Ot → Hw → Prop} {w : Hw} {k n : Nat} {l0 : Option Value} : WP (MX1_needCard g) Q (Prod.mk 20 (Prod.mk (List.cons l0 List.nil) (Prod.mk List.nil (Prod.mk w (Prod.mk k n))))) = (k ≤ 1 ∧ n ≤ 6 ∧ Q (.inl none) w) := vret_e rfl (oy_177 qx_cX1_needCard_0 20 rfl) rfl
theorem vMX1_needCard {l : Launch} (hl : l.stackTraces = false) (G : GT) : vM l G (MX1_needCard (gg G)) := vM_k RX1 cX1_needCard rfl rfl all_n all_n all_n all_n (all_c (⟨240, 245, 244, "no such card", by decide, by decide +kernel, wk_356, wk_72, vX_RX1_240_244, by decide, dX1_needCard_10, dX1_needCard_13, dX1_needCard_14, dX1_needCard_16, dX1_needCard_19⟩) (all_n)) (fun h => absurd rfl h) all_n all_n all_n (fun h => absurd rfl h) rfl all_n
theorem okX1_needCard {l : Launch} (hl : l.stackTraces = false) {G : GT} : ∀ (args : List Value) (w : Hw) (S : Ot → Hw → Prop), spOf (MX1_needCard (gg G)) args w S → CX l G yX1_needCard (.code yX1_needCard cX1_needCard 1 (none)) 6 1 6 args w S := CX_sp (M := MX1_needCard (gg G)) (y := yX1_needCard) hl pn16 rfl (vMX1_needCard hl G) (fun h => by cases h) rfl
theorem qx_cX1_needPlace_0 : ((cX1_needPlace.data.toList.drop 0).take 38).map UInt8.toNat = [27, 155, 0, 11, 27, 42, 180, 0, 22, 161, 0, 13, 187, 0, 240, 89, 18, 247, 183, 0, 244, 191, 177] := by decide +kernel
theorem dX1_needPlace_12 : decode cX1_needPlace 12 = .ok (.new 240, 3) := (oy_187 qx_cX1_needPlace_0 12 0 240 rfl rfl rfl rfl)
theorem dX1_needPlace_15 : decode cX1_needPlace 15 = .ok (.dup, 1) := (oy_89 qx_cX1_needPlace_0 15 rfl)
theorem dX1_needPlace_16 : decode cX1_needPlace 16 = .ok (.ldc 247, 2) := (oy_18 qx_cX1_needPlace_0 16 247 rfl rfl)
theorem dX1_needPlace_18 : decode cX1_needPlace 18 = .ok (.invokespecial 244, 3) := (oy_183 qx_cX1_needPlace_0 18 0 244 rfl rfl rfl rfl)
theorem dX1_needPlace_21 : decode cX1_needPlace 21 = .ok (.athrow, 1) := (oy_191 qx_cX1_needPlace_0 21 rfl)
noncomputable def MX1_needPlace (g : RO) : MT := ((RX1, cX1_needPlace, 2, 6, 1, 6, false, none), [(22, 5, 3)], [], [], [], [(12, "java/lang/IndexOutOfBoundsException")], 0, [], [], [], 0, [], [], g)
theorem eX1_needPlace_0 {g : RO} {Q : Ot → Hw → Prop} {w : Hw} {a : Int32} {st : List Value} {k n : Nat} {l0 : Option Value} : WP (MX1_needPlace g) Q (Prod.mk 0 (Prod.mk (List.cons l0 (List.cons (Option.some (Value.int a)) List.nil)) (Prod.mk st (Prod.mk w (Prod.mk k n))))) = if a < 0 then WP (MX1_needPlace g) Q (Prod.mk 12 (Prod.mk (List.cons l0 (List.cons (Option.some (Value.int a)) List.nil)) (Prod.mk st (Prod.mk w (Prod.mk k n))))) else WP (MX1_needPlace g) Q (Prod.mk 4 (Prod.mk (List.cons l0 (List.cons (Option.some (Value.int a)) List.nil)) (Prod.mk st (Prod.mk w (Prod.mk k n))))) := Eq.trans (iln_e rfl (oy_27 qx_cX1_needPlace_0 0 rfl) rfl) (ifc_e (a < 0) rfl (oy_155 qx_cX1_needPlace_0 1 0 11 rfl rfl rfl rfl) rfl (by decide))
theorem eX1_needPlace_4 {g : RO} {Q : Ot → Hw → Prop} {w : Hw} {a : Int32} {st : List Value} {k n p : Nat} : WP (MX1_needPlace g) Q (Prod.mk 4 (Prod.mk (List.cons (Option.some (Value.ref p)) (List.cons (Option.some (Value.int a)) List.nil)) (Prod.mk st (Prod.mk w (Prod.mk k n))))) = go (rd g w p) 5 fun fs => ∃ v, fs[3]? = some v ∧ WP (MX1_needPlace g) Q (Prod.mk 9 (Prod.mk (List.cons (Option.some (Value.ref p)) (List.cons (Option.some (Value.int a)) List.nil)) (Prod.mk (List.cons v (List.cons (Value.int a) st)) (Prod.mk w (Prod.mk k n))))) := Eq.trans (iln_e rfl (oy_27 qx_cX1_needPlace_0 4 rfl) rfl) (Eq.trans (alnR_e rfl (oy_42 qx_cX1_needPlace_0 5 rfl) rfl) (get_e rfl (oy_180 qx_cX1_needPlace_0 6 0 22 rfl rfl rfl rfl) rfl))
theorem eX1_needPlace_9 {g : RO} {Q : Ot → Hw → Prop} {st : List Value} {w : Hw} {k n : Nat} {a b : Int32} {l0 l1 : Option Value} : WP (MX1_needPlace g) Q (Prod.mk 9 (Prod.mk (List.cons l0 (List.cons l1 List.nil)) (Prod.mk (List.cons (Value.int b) (List.cons (Value.int a) st)) (Prod.mk w (Prod.mk k n))))) = if a < b then WP (MX1_needPlace g) Q (Prod.mk 22 (Prod.mk (List.cons l0 (List.cons l1 List.nil)) (Prod.mk st (Prod.mk w (Prod.mk k n))))) else WP (MX1_needPlace g) Q (Prod.mk 12 (Prod.mk (List.cons l0 (List.cons l1 List.nil)) (Prod.mk st (Prod.mk w (Prod.mk k n))))) := icm_e (a < b) rfl (oy_161 qx_cX1_needPlace_0 9 0 13 rfl rfl rfl rfl) rfl (by decide)
theorem eX1_needPlace_12 {g : RO} {Q : Ot → Hw → Prop} {st : List Value} {w : Hw} {k n : Nat} {l0 l1 : Option Value} : WP (MX1_needPlace g) Q (Prod.mk 12 (Prod.mk (List.cons l0 (List.cons l1 List.nil)) (Prod.mk st (Prod.mk w (Prod.mk k n))))) = (k + 1 ≤ 1 ∧ n + 6 ≤ 6 ∧ wt st ≤ 8 ∧ 6 ≤ 6 ∧ Q (.inr "java/lang/IndexOutOfBoundsException") w) := WP_thr rfl rfl
theorem eX1_needPlace_22 {g : RO} {Q : Ot → Hw → Prop} {w : Hw} {k n : Nat} {l0 l1 : Option Value} : WP (MX1_needPlace g) Q (Prod.mk 22 (Prod.mk (List.cons l0 (List.cons l1 List.nil)) (Prod.mk List.nil (Prod.mk w (Prod.mk k n))))) = (k ≤ 1 ∧ n ≤ 6 ∧ Q (.inl none) w) := vret_e rfl (oy_177 qx_cX1_needPlace_0 22 rfl) rfl
theorem iW_5 : ∀ w ∈ u_ws RX1 TX1 7, w ∈ WS := lay_in fun k hk => match k, hk with | 0, _ => WS_t1 47 (by eq_refl) (by eq_refl) | 1, _ => WS_t1 49 (by eq_refl) (by eq_refl) | 2, _ => WS_t1 51 (by eq_refl) (by eq_refl) | 3, _ => WS_t1 53 (by eq_refl) (by eq_refl) | 4, _ => WS_t1 55 (by eq_refl) (by eq_refl) | 5, _ => WS_t1 57 (by eq_refl) (by eq_refl) | 6, _ => WS_t1 59 (by eq_refl) (by eq_refl) | k + 7, hk => absurd hk (Nat.not_lt.mpr (Nat.le_add_left _ _))
theorem wk_101 : (.fieldLink RX1 22 "Rangecard" "laidCount" "I" : Jvm.Cond) ∈ WS := WS_t1 43 (by eq_refl) (by eq_refl)
theorem vF_RX1_22 : vFld RX1 22 5 3 := ⟨RX1, TX1, 7, tyX1, "Rangecard", rfl, by decide, iW_5, tyX1_ok, nmX1, Or.inl rfl, Or.inl wk_101⟩
theorem vMX1_needPlace {l : Launch} (hl : l.stackTraces = false) (G : GT) : vM l G (MX1_needPlace (gg G)) := vM_k RX1 cX1_needPlace rfl rfl (all_c (vF_RX1_22) (all_n)) all_n all_n all_n (all_c (⟨240, 247, 244, "no such place", by decide, by decide +kernel, wk_356, wk_72, vX_RX1_240_244, by decide, dX1_needPlace_12, dX1_needPlace_15, dX1_needPlace_16, dX1_needPlace_18, dX1_needPlace_21⟩) (all_n)) (fun h => absurd rfl h) all_n all_n all_n (fun h => absurd rfl h) rfl all_n
theorem okX1_needPlace {l : Launch} (hl : l.stackTraces = false) {G : GT} : ∀ (args : List Value) (w : Hw) (S : Ot → Hw → Prop), spOf (MX1_needPlace (gg G)) args w S → CX l G yX1_needPlace (.code yX1_needPlace cX1_needPlace 2 (none)) 6 1 6 args w S := CX_sp (M := MX1_needPlace (gg G)) (y := yX1_needPlace) hl pn16 rfl (vMX1_needPlace hl G) (fun h => by cases h) rfl
theorem qx_cX1_needChoice_0 : ((cX1_needChoice.data.toList.drop 0).take 38).map UInt8.toNat = [26, 155, 0, 8, 26, 27, 164, 0, 13, 187, 0, 165, 89, 18, 249, 183, 0, 169, 191, 177] := by decide +kernel
theorem dX1_needChoice_9 : decode cX1_needChoice 9 = .ok (.new 165, 3) := (oy_187 qx_cX1_needChoice_0 9 0 165 rfl rfl rfl rfl)
theorem dX1_needChoice_12 : decode cX1_needChoice 12 = .ok (.dup, 1) := (oy_89 qx_cX1_needChoice_0 12 rfl)
theorem dX1_needChoice_13 : decode cX1_needChoice 13 = .ok (.ldc 249, 2) := (oy_18 qx_cX1_needChoice_0 13 249 rfl rfl)
theorem dX1_needChoice_15 : decode cX1_needChoice 15 = .ok (.invokespecial 169, 3) := (oy_183 qx_cX1_needChoice_0 15 0 169 rfl rfl rfl rfl)
theorem dX1_needChoice_18 : decode cX1_needChoice 18 = .ok (.athrow, 1) := (oy_191 qx_cX1_needChoice_0 18 rfl)
noncomputable def MX1_needChoice (g : RO) : MT := ((RX1, cX1_needChoice, 2, 6, 1, 6, false, none), [], [], [], [], [(9, "java/lang/IllegalArgumentException")], 0, [], [], [], 0, [], [], g)
theorem eX1_needChoice_0 {g : RO} {Q : Ot → Hw → Prop} {w : Hw} {a : Int32} {st : List Value} {k n : Nat} {l1 : Option Value} : WP (MX1_needChoice g) Q (Prod.mk 0 (Prod.mk (List.cons (Option.some (Value.int a)) (List.cons l1 List.nil)) (Prod.mk st (Prod.mk w (Prod.mk k n))))) = if a < 0 then WP (MX1_needChoice g) Q (Prod.mk 9 (Prod.mk (List.cons (Option.some (Value.int a)) (List.cons l1 List.nil)) (Prod.mk st (Prod.mk w (Prod.mk k n))))) else WP (MX1_needChoice g) Q (Prod.mk 4 (Prod.mk (List.cons (Option.some (Value.int a)) (List.cons l1 List.nil)) (Prod.mk st (Prod.mk w (Prod.mk k n))))) := Eq.trans (iln_e rfl (oy_26 qx_cX1_needChoice_0 0 rfl) rfl) (ifc_e (a < 0) rfl (oy_155 qx_cX1_needChoice_0 1 0 8 rfl rfl rfl rfl) rfl (by decide))
theorem eX1_needChoice_4 {g : RO} {Q : Ot → Hw → Prop} {w : Hw} {a b : Int32} {st : List Value} {k n : Nat} : WP (MX1_needChoice g) Q (Prod.mk 4 (Prod.mk (List.cons (Option.some (Value.int a)) (List.cons (Option.some (Value.int b)) List.nil)) (Prod.mk st (Prod.mk w (Prod.mk k n))))) = if a ≤ b then WP (MX1_needChoice g) Q (Prod.mk 19 (Prod.mk (List.cons (Option.some (Value.int a)) (List.cons (Option.some (Value.int b)) List.nil)) (Prod.mk st (Prod.mk w (Prod.mk k n))))) else WP (MX1_needChoice g) Q (Prod.mk 9 (Prod.mk (List.cons (Option.some (Value.int a)) (List.cons (Option.some (Value.int b)) List.nil)) (Prod.mk st (Prod.mk w (Prod.mk k n))))) := Eq.trans (iln_e rfl (oy_26 qx_cX1_needChoice_0 4 rfl) rfl) (Eq.trans (iln_e rfl (oy_27 qx_cX1_needChoice_0 5 rfl) rfl) (icm_e (a ≤ b) rfl (oy_164 qx_cX1_needChoice_0 6 0 13 rfl rfl rfl rfl) rfl (by decide)))
theorem eX1_needChoice_9 {g : RO} {Q : Ot → Hw → Prop} {st : List Value} {w : Hw} {k n : Nat} {l0 l1 : Option Value} : WP (MX1_needChoice g) Q (Prod.mk 9 (Prod.mk (List.cons l0 (List.cons l1 List.nil)) (Prod.mk st (Prod.mk w (Prod.mk k n))))) = (k + 1 ≤ 1 ∧ n + 6 ≤ 6 ∧ wt st ≤ 8 ∧ 6 ≤ 6 ∧ Q (.inr "java/lang/IllegalArgumentException") w) := WP_thr rfl rfl
theorem eX1_needChoice_19 {g : RO} {Q : Ot → Hw → Prop} {w : Hw} {k n : Nat} {l0 l1 : Option Value} : WP (MX1_needChoice g) Q (Prod.mk 19 (Prod.mk (List.cons l0 (List.cons l1 List.nil)) (Prod.mk List.nil (Prod.mk w (Prod.mk k n))))) = (k ≤ 1 ∧ n ≤ 6 ∧ Q (.inl none) w) := vret_e rfl (oy_177 qx_cX1_needChoice_0 19 rfl) rfl
theorem vX_RX1_165_169 : ∀ w ∈ vx_atS RX1 169 "java/lang/IllegalArgumentException" exNames, ((w ∈ lw_tbl ∧ (goodWord w || isNW w) = true) ∨ w = .castable "java/lang/IllegalArgumentException" "java/lang/IllegalArgumentException") ∧ vx_ot w = true := by decide +kernel
theorem wk_443 : (.classLink RX1 165 "java/lang/IllegalArgumentException" : Jvm.Cond) ∈ WS := WS_t2 145 (by eq_refl) (by eq_refl)
theorem wk_73 : (.initialized "java/lang/IllegalArgumentException" : Jvm.Cond) ∈ WS := WS_t1 15 (by eq_refl) (by eq_refl)
theorem vMX1_needChoice {l : Launch} (hl : l.stackTraces = false) (G : GT) : vM l G (MX1_needChoice (gg G)) := vM_k RX1 cX1_needChoice rfl rfl all_n all_n all_n all_n (all_c (⟨165, 249, 169, "no such what", by decide, by decide +kernel, wk_443, wk_73, vX_RX1_165_169, by decide, dX1_needChoice_9, dX1_needChoice_12, dX1_needChoice_13, dX1_needChoice_15, dX1_needChoice_18⟩) (all_n)) (fun h => absurd rfl h) all_n all_n all_n (fun h => absurd rfl h) rfl all_n
theorem okX1_needChoice {l : Launch} (hl : l.stackTraces = false) {G : GT} : ∀ (args : List Value) (w : Hw) (S : Ot → Hw → Prop), spOf (MX1_needChoice (gg G)) args w S → CX l G yX1_needChoice (.code yX1_needChoice cX1_needChoice 2 (none)) 6 1 6 args w S := CX_sp (M := MX1_needChoice (gg G)) (y := yX1_needChoice) hl pn16 rfl (vMX1_needChoice hl G) (fun h => by cases h) rfl
theorem qx_cX1_rangeOf_0 : ((cX1_rangeOf.data.toList.drop 0).take 38).map UInt8.toNat = [27, 184, 0, 79, 42, 180, 0, 15, 27, 50, 77, 44, 199, 0, 13, 187, 0, 251, 89, 18, 253, 183, 0, 255, 191, 44, 176] := by decide +kernel
theorem dX1_rangeOf_15 : decode cX1_rangeOf 15 = .ok (.new 251, 3) := (oy_187 qx_cX1_rangeOf_0 15 0 251 rfl rfl rfl rfl)
theorem dX1_rangeOf_18 : decode cX1_rangeOf 18 = .ok (.dup, 1) := (oy_89 qx_cX1_rangeOf_0 18 rfl)
theorem dX1_rangeOf_19 : decode cX1_rangeOf 19 = .ok (.ldc 253, 2) := (oy_18 qx_cX1_rangeOf_0 19 253 rfl rfl)
theorem dX1_rangeOf_21 : decode cX1_rangeOf 21 = .ok (.invokespecial 255, 3) := (oy_183 qx_cX1_rangeOf_0 21 0 255 rfl rfl rfl rfl)
theorem dX1_rangeOf_24 : decode cX1_rangeOf 24 = .ok (.athrow, 1) := (oy_191 qx_cX1_rangeOf_0 24 rfl)
noncomputable def MX1_rangeOf (g : RO) : MT := ((RX1, cX1_rangeOf, 3, 7, 2, 12, false, some (.object "Rangecard$Range")), [(15, 5, 1)], [], [], [], [(15, "java/lang/IllegalStateException")], 0, [(79, 0, 1, 0, 6, (fun _ _ => 1), (fun _ _ => 6), yX1_needCard, spOf (MX1_needCard g))], [], [], 0, [], [], g)
theorem eX1_rangeOf_0 {g : RO} {Q : Ot → Hw → Prop} {w : Hw} {z0 : Int32} {st : List Value} {k n : Nat} {l0 l2 : Option Value} : WP (MX1_rangeOf g) Q (Prod.mk 0 (Prod.mk (List.cons l0 (List.cons (Option.some (Value.int z0)) (List.cons l2 List.nil))) (Prod.mk st (Prod.mk w (Prod.mk k n))))) = (wt st ≤ 8 ∧ k + 1 ≤ 2 ∧ n + 6 ≤ 12 ∧ WP (MX1_needCard g) (kx (fun v w' => WP (MX1_rangeOf g) Q (Prod.mk 4 (Prod.mk (List.cons l0 (List.cons (Option.some (Value.int z0)) (List.cons l2 List.nil))) (Prod.mk (v.toList ++ st) (Prod.mk w' (Prod.mk (k + 1) (n + 6))))))) (fun E w' => Q (.inr E) w')) (Prod.mk 0 (Prod.mk (List.cons (Option.some (Value.int z0)) List.nil) (Prod.mk List.nil (Prod.mk w (Prod.mk 0 0)))))) := Eq.trans (iln_e rfl (oy_27 qx_cX1_rangeOf_0 0 rfl) rfl) (csS0 (M := (MX1_rangeOf g)) (mc := (fun _ _ => 1)) (ms := (fun _ _ => 6)) (As := [.int z0]) (rest := st) (MX1_needCard g) rfl rfl rfl (oy_184 qx_cX1_rangeOf_0 1 0 79 rfl rfl rfl rfl) rfl rfl rfl rfl rfl rfl rfl)
theorem eX1_rangeOf_4 {g : RO} {Q : Ot → Hw → Prop} {w : Hw} {st : List Value} {k n p : Nat} {l1 l2 : Option Value} : WP (MX1_rangeOf g) Q (Prod.mk 4 (Prod.mk (List.cons (Option.some (Value.ref p)) (List.cons l1 (List.cons l2 List.nil))) (Prod.mk st (Prod.mk w (Prod.mk k n))))) = go (rd g w p) 5 fun fs => ∃ v, fs[1]? = some v ∧ WP (MX1_rangeOf g) Q (Prod.mk 8 (Prod.mk (List.cons (Option.some (Value.ref p)) (List.cons l1 (List.cons l2 List.nil))) (Prod.mk (List.cons v st) (Prod.mk w (Prod.mk k n))))) := Eq.trans (alnR_e rfl (oy_42 qx_cX1_rangeOf_0 4 rfl) rfl) (get_e rfl (oy_180 qx_cX1_rangeOf_0 5 0 15 rfl rfl rfl rfl) rfl)
theorem eX1_rangeOf_8 {g : RO} {Q : Ot → Hw → Prop} {st : List Value} {w : Hw} {k n : Nat} {a : Int32} {l0 l2 : Option Value} : WP (MX1_rangeOf g) Q (Prod.mk 8 (Prod.mk (List.cons l0 (List.cons (Option.some (Value.int a)) (List.cons l2 List.nil))) (Prod.mk st (Prod.mk w (Prod.mk k n))))) = WP (MX1_rangeOf g) Q (Prod.mk 9 (Prod.mk (List.cons l0 (List.cons (Option.some (Value.int a)) (List.cons l2 List.nil))) (Prod.mk (List.cons (Value.int a) st) (Prod.mk w (Prod.mk k n))))) := iln_e rfl (oy_27 qx_cX1_rangeOf_0 8 rfl) rfl
theorem eX1_rangeOf_9 {g : RO} {Q : Ot → Hw → Prop} {st : List Value} {w : Hw} {k n p : Nat} {a : Int32} {l0 l1 l2 : Option Value} : WP (MX1_rangeOf g) Q (Prod.mk 9 (Prod.mk (List.cons l0 (List.cons l1 (List.cons l2 List.nil))) (Prod.mk (List.cons (Value.int a) (List.cons (Value.ref p) st)) (Prod.mk w (Prod.mk k n))))) = gq (rd g w p) fun t N f => (t = 4 ∨ t = 5) ∧ vp_in a N ∧ WP (MX1_rangeOf g) Q (Prod.mk 10 (Prod.mk (List.cons l0 (List.cons l1 (List.cons l2 List.nil))) (Prod.mk (List.cons (va_rf (f a.toNatClampNeg)) st) (Prod.mk w (Prod.mk k n))))) := aaload_e rfl (oy_50 qx_cX1_rangeOf_0 9 rfl)
theorem eX1_rangeOf_10 {g : RO} {Q : Ot → Hw → Prop} {st : List Value} {w : Hw} {k n p : Nat} {l0 l1 l2 : Option Value} : WP (MX1_rangeOf g) Q (Prod.mk 10 (Prod.mk (List.cons l0 (List.cons l1 (List.cons l2 List.nil))) (Prod.mk (List.cons (Value.ref p) st) (Prod.mk w (Prod.mk k n))))) = WP (MX1_rangeOf g) Q (Prod.mk 11 (Prod.mk (List.cons l0 (List.cons (nl l1) (List.cons (Option.some (Value.ref p)) List.nil))) (Prod.mk st (Prod.mk w (Prod.mk k n))))) := asnR_e rfl (oy_77 qx_cX1_rangeOf_0 10 rfl) rfl rfl
theorem eX1_rangeOf_10N {g : RO} {Q : Ot → Hw → Prop} {st : List Value} {w : Hw} {k n : Nat} {l0 l1 l2 : Option Value} : WP (MX1_rangeOf g) Q (Prod.mk 10 (Prod.mk (List.cons l0 (List.cons l1 (List.cons l2 List.nil))) (Prod.mk (List.cons Value.null st) (Prod.mk w (Prod.mk k n))))) = WP (MX1_rangeOf g) Q (Prod.mk 11 (Prod.mk (List.cons l0 (List.cons (nl l1) (List.cons (Option.some (Value.null)) List.nil))) (Prod.mk st (Prod.mk w (Prod.mk k n))))) := asnN_e rfl (oy_77 qx_cX1_rangeOf_0 10 rfl) rfl rfl
theorem eX1_rangeOf_11 {g : RO} {Q : Ot → Hw → Prop} {st : List Value} {w : Hw} {k n p : Nat} {l0 l1 : Option Value} : WP (MX1_rangeOf g) Q (Prod.mk 11 (Prod.mk (List.cons l0 (List.cons l1 (List.cons (Option.some (Value.ref p)) List.nil))) (Prod.mk st (Prod.mk w (Prod.mk k n))))) = WP (MX1_rangeOf g) Q (Prod.mk 12 (Prod.mk (List.cons l0 (List.cons l1 (List.cons (Option.some (Value.ref p)) List.nil))) (Prod.mk (List.cons (Value.ref p) st) (Prod.mk w (Prod.mk k n))))) := alnR_e rfl (oy_44 qx_cX1_rangeOf_0 11 rfl) rfl
theorem eX1_rangeOf_11N {g : RO} {Q : Ot → Hw → Prop} {st : List Value} {w : Hw} {k n : Nat} {l0 l1 : Option Value} : WP (MX1_rangeOf g) Q (Prod.mk 11 (Prod.mk (List.cons l0 (List.cons l1 (List.cons (Option.some Value.null) List.nil))) (Prod.mk st (Prod.mk w (Prod.mk k n))))) = WP (MX1_rangeOf g) Q (Prod.mk 12 (Prod.mk (List.cons l0 (List.cons l1 (List.cons (Option.some Value.null) List.nil))) (Prod.mk (List.cons Value.null st) (Prod.mk w (Prod.mk k n))))) := alnN_e rfl (oy_44 qx_cX1_rangeOf_0 11 rfl) rfl
theorem eX1_rangeOf_12R {g : RO} {Q : Ot → Hw → Prop} {st : List Value} {w : Hw} {k n p : Nat} {l0 l1 l2 : Option Value} : WP (MX1_rangeOf g) Q (Prod.mk 12 (Prod.mk (List.cons l0 (List.cons l1 (List.cons l2 List.nil))) (Prod.mk (List.cons (Value.ref p) st) (Prod.mk w (Prod.mk k n))))) = WP (MX1_rangeOf g) Q (Prod.mk 25 (Prod.mk (List.cons l0 (List.cons l1 (List.cons l2 List.nil))) (Prod.mk st (Prod.mk w (Prod.mk k n))))) := ifnonnullR_e rfl (oy_199 qx_cX1_rangeOf_0 12 0 13 rfl rfl rfl rfl) (tgt := 25) (by decide)
theorem eX1_rangeOf_12N {g : RO} {Q : Ot → Hw → Prop} {st : List Value} {w : Hw} {k n : Nat} {l0 l1 l2 : Option Value} : WP (MX1_rangeOf g) Q (Prod.mk 12 (Prod.mk (List.cons l0 (List.cons l1 (List.cons l2 List.nil))) (Prod.mk (List.cons Value.null st) (Prod.mk w (Prod.mk k n))))) = WP (MX1_rangeOf g) Q (Prod.mk 15 (Prod.mk (List.cons l0 (List.cons l1 (List.cons l2 List.nil))) (Prod.mk st (Prod.mk w (Prod.mk k n))))) := ifnonnullN_e rfl (oy_199 qx_cX1_rangeOf_0 12 0 13 rfl rfl rfl rfl) (tgt := 25) (by decide)
theorem eX1_rangeOf_15 {g : RO} {Q : Ot → Hw → Prop} {st : List Value} {w : Hw} {k n : Nat} {l0 l1 l2 : Option Value} : WP (MX1_rangeOf g) Q (Prod.mk 15 (Prod.mk (List.cons l0 (List.cons l1 (List.cons l2 List.nil))) (Prod.mk st (Prod.mk w (Prod.mk k n))))) = (k + 1 ≤ 2 ∧ n + 6 ≤ 12 ∧ wt st ≤ 8 ∧ 6 ≤ 7 ∧ Q (.inr "java/lang/IllegalStateException") w) := WP_thr rfl rfl
theorem eX1_rangeOf_25 {g : RO} {Q : Ot → Hw → Prop} {w : Hw} {k n p : Nat} {l0 l1 : Option Value} : WP (MX1_rangeOf g) Q (Prod.mk 25 (Prod.mk (List.cons l0 (List.cons l1 (List.cons (Option.some (Value.ref p)) List.nil))) (Prod.mk List.nil (Prod.mk w (Prod.mk k n))))) = (k ≤ 2 ∧ n ≤ 12 ∧ Q (.inl (Option.some (Value.ref p))) w) := Eq.trans (alnR_e rfl (oy_44 qx_cX1_rangeOf_0 25 rfl) rfl) (aretR_e rfl (oy_176 qx_cX1_rangeOf_0 26 rfl) rfl)
theorem wk_99 : (.fieldLink RX1 15 "Rangecard" "cards" "[LRangecard$Range;" : Jvm.Cond) ∈ WS := WS_t1 41 (by eq_refl) (by eq_refl)
theorem vF_RX1_15 : vFld RX1 15 5 1 := ⟨RX1, TX1, 7, tyX1, "Rangecard", rfl, by decide, iW_5, tyX1_ok, nmX1, Or.inl rfl, Or.inl wk_99⟩
theorem vX_RX1_251_255 : ∀ w ∈ vx_atS RX1 255 "java/lang/IllegalStateException" exNames, ((w ∈ lw_tbl ∧ (goodWord w || isNW w) = true) ∨ w = .castable "java/lang/IllegalStateException" "java/lang/IllegalStateException") ∧ vx_ot w = true := by decide +kernel
theorem wk_878 : (.classLink RX1 251 "java/lang/IllegalStateException" : Jvm.Cond) ∈ WS := WS_t4 100 (by eq_refl) (by eq_refl)
theorem wk_86 : (.initialized "java/lang/IllegalStateException" : Jvm.Cond) ∈ WS := WS_t1 28 (by eq_refl) (by eq_refl)
theorem wk_818 : (.code yX1_needCard cX1_needCard 1 (none) : Jvm.Cond) ∈ WS := WS_t4 40 (by eq_refl) (by eq_refl)
theorem wk_59 : (.initialized RX1 : Jvm.Cond) ∈ WS := WS_t1 1 (by eq_refl) (by eq_refl)
theorem wk_816 : (.methodLink RX1 79 yX1_needCard : Jvm.Cond) ∈ WS := WS_t4 38 (by eq_refl) (by eq_refl)
theorem wk_817 : (.static yX1_needCard : Jvm.Cond) ∈ WS := WS_t4 39 (by eq_refl) (by eq_refl)
theorem nc14 : (RX1 : String) ≠ "java/lang/invoke/MethodHandle" ∧ (RX1 : String) ≠ "java/lang/invoke/VarHandle" := ⟨by decide, by decide⟩
theorem pd51 : (parseMethodDescriptor "(I)V").map (fun d => d.parameters.length) = some 1 := by decide +kernel
theorem kc_78 {l : Launch} (hl : l.stackTraces = false) {G : GT} {own : String} {i : Nat} (hw : Jvm.Cond.methodLink own i yX1_needCard ∈ WS) : vCal l G own i (0, 1, 0, 6, (fun _ _ => 1), (fun _ _ => 6), yX1_needCard, spOf (MX1_needCard (gg G))) := ⟨cX1_needCard, 1, none, fun y hy => by subst hy; exact ⟨Nat.le_of_ble_eq_true rfl, ⟨_, wk_818, okX1_needCard hl, Or.inl ⟨Nat.ne_of_beq_eq_false rfl, rfl⟩⟩, wk_59, nc14, ⟨pd51, hw, wk_817⟩⟩⟩
theorem vMX1_rangeOf {l : Launch} (hl : l.stackTraces = false) (G : GT) : vM l G (MX1_rangeOf (gg G)) := vM_k RX1 cX1_rangeOf rfl rfl (all_c (vF_RX1_15) (all_n)) all_n all_n all_n (all_c (⟨251, 253, 255, "the card has no range", by decide, by decide +kernel, wk_878, wk_86, vX_RX1_251_255, by decide, dX1_rangeOf_15, dX1_rangeOf_18, dX1_rangeOf_19, dX1_rangeOf_21, dX1_rangeOf_24⟩) (all_n)) (fun h => absurd rfl h) (all_c (kc_78 hl wk_816) (all_n)) all_n all_n (fun h => absurd rfl h) rfl all_n
theorem okX1_rangeOf {l : Launch} (hl : l.stackTraces = false) {G : GT} : ∀ (args : List Value) (w : Hw) (S : Ot → Hw → Prop), spOf (MX1_rangeOf (gg G)) args w S → CX l G yX1_rangeOf (.code yX1_rangeOf cX1_rangeOf 3 (some (.object "Rangecard$Range"))) 7 2 12 args w S := CX_sp (M := MX1_rangeOf (gg G)) (y := yX1_rangeOf) hl pn16 rfl (vMX1_rangeOf hl G) (fun h => by cases h) rfl
end
