/-! Rangecard$Range.<init>(JJJJ)V -/
theorem dX0_init_0 : decode cX0_init 0 = .ok (.aload_n 0, 1) := by decide +kernel
theorem dX0_init_1 : decode cX0_init 1 = .ok (.invokespecial 3, 3) := by decide +kernel
theorem dX0_init_4 : decode cX0_init 4 = .ok (.aload_n 0, 1) := by decide +kernel
theorem dX0_init_5 : decode cX0_init 5 = .ok (.lload_n 1, 1) := by decide +kernel
theorem dX0_init_6 : decode cX0_init 6 = .ok (.putfield 9, 3) := by decide +kernel
theorem dX0_init_9 : decode cX0_init 9 = .ok (.aload_n 0, 1) := by decide +kernel
theorem dX0_init_10 : decode cX0_init 10 = .ok (.lload_n 3, 1) := by decide +kernel
theorem dX0_init_11 : decode cX0_init 11 = .ok (.putfield 15, 3) := by decide +kernel
theorem dX0_init_14 : decode cX0_init 14 = .ok (.aload_n 0, 1) := by decide +kernel
theorem dX0_init_15 : decode cX0_init 15 = .ok (.lload 5, 2) := by decide +kernel
theorem dX0_init_17 : decode cX0_init 17 = .ok (.putfield 18, 3) := by decide +kernel
theorem dX0_init_20 : decode cX0_init 20 = .ok (.aload_n 0, 1) := by decide +kernel
theorem dX0_init_21 : decode cX0_init 21 = .ok (.lload 7, 2) := by decide +kernel
theorem dX0_init_23 : decode cX0_init 23 = .ok (.putfield 21, 3) := by decide +kernel
theorem dX0_init_26 : decode cX0_init 26 = .ok (.return_, 1) := by decide +kernel
def MX0_init (g : RO) : MT := ((RX0, cX0_init, 9, 1, 0, 0, true, none), [(9, 4, 0), (15, 4, 1), (18, 4, 2), (21, 4, 3)], [], [], [], [], 3, [], [], [], 0, [], [], g)
section
variable {g : RO} {Q : Ot → Hw → Prop} {st : List Value} {w : Hw} {k n p q : Nat} {a b : Int32} {x y : Int64} {u v : Value} {l0 l1 l2 l3 l4 l5 l6 l7 l8 : Option Value}
theorem eX0_init_0 : WP (MX0_init g) Q (0, [some (.ref p), l1, l2, l3, l4, l5, l6, l7, l8], st, w, k, n) = WP (MX0_init g) Q (1, [some (.ref p), l1, l2, l3, l4, l5, l6, l7, l8], .ref p :: st, w, k, n) := Eq.trans (WP_at (M := (MX0_init g)) rfl dX0_init_0 (Or.inr rfl)) rfl
theorem eX0_init_0N : WP (MX0_init g) Q (0, [some .null, l1, l2, l3, l4, l5, l6, l7, l8], st, w, k, n) = WP (MX0_init g) Q (1, [some .null, l1, l2, l3, l4, l5, l6, l7, l8], .null :: st, w, k, n) := Eq.trans (WP_at (M := (MX0_init g)) rfl dX0_init_0 (Or.inr rfl)) rfl
theorem eX0_init_1 : WP (MX0_init g) Q (1, [l0, l1, l2, l3, l4, l5, l6, l7, l8], .ref p :: st, w, k, n) = (wt st ≤ 8 ∧ WP (MX0_init g) Q (4, [l0, l1, l2, l3, l4, l5, l6, l7, l8], st, w, k, n)) := obj_i rfl dX0_init_1 rfl rfl (by decide) (Nat.le_of_ble_eq_true rfl)
theorem eX0_init_4 : WP (MX0_init g) Q (4, [some (.ref p), l1, l2, l3, l4, l5, l6, l7, l8], st, w, k, n) = WP (MX0_init g) Q (5, [some (.ref p), l1, l2, l3, l4, l5, l6, l7, l8], .ref p :: st, w, k, n) := Eq.trans (WP_at (M := (MX0_init g)) rfl dX0_init_4 (Or.inr rfl)) rfl
theorem eX0_init_4N : WP (MX0_init g) Q (4, [some .null, l1, l2, l3, l4, l5, l6, l7, l8], st, w, k, n) = WP (MX0_init g) Q (5, [some .null, l1, l2, l3, l4, l5, l6, l7, l8], .null :: st, w, k, n) := Eq.trans (WP_at (M := (MX0_init g)) rfl dX0_init_4 (Or.inr rfl)) rfl
theorem eX0_init_5 : WP (MX0_init g) Q (5, [l0, some (.long x), l2, l3, l4, l5, l6, l7, l8], st, w, k, n) = WP (MX0_init g) Q (6, [l0, some (.long x), l2, l3, l4, l5, l6, l7, l8], .long x :: st, w, k, n) := Eq.trans (WP_at (M := (MX0_init g)) rfl dX0_init_5 (Or.inr rfl)) rfl
theorem eX0_init_6 : WP (MX0_init g) Q (6, [l0, l1, l2, l3, l4, l5, l6, l7, l8], v :: .ref p :: st, w, k, n) = go (w p) 4 fun fs => 0 < fs.length ∧ (narrow (.long) v = v ∧ fits (.long) v = true) ∧ WP (MX0_init g) Q (9, [l0, l1, l2, l3, l4, l5, l6, l7, l8], st, upw w p (.inr (4, fs.set 0 v)), k, n) := put_e (q := (RX0, TX0, 4)) rfl dX0_init_6 rfl rfl (tyX0_ok 0 (by decide)) (Or.inr ⟨rfl, rfl⟩)
theorem eX0_init_9 : WP (MX0_init g) Q (9, [some (.ref p), l1, l2, l3, l4, l5, l6, l7, l8], st, w, k, n) = WP (MX0_init g) Q (10, [some (.ref p), l1, l2, l3, l4, l5, l6, l7, l8], .ref p :: st, w, k, n) := Eq.trans (WP_at (M := (MX0_init g)) rfl dX0_init_9 (Or.inr rfl)) rfl
theorem eX0_init_9N : WP (MX0_init g) Q (9, [some .null, l1, l2, l3, l4, l5, l6, l7, l8], st, w, k, n) = WP (MX0_init g) Q (10, [some .null, l1, l2, l3, l4, l5, l6, l7, l8], .null :: st, w, k, n) := Eq.trans (WP_at (M := (MX0_init g)) rfl dX0_init_9 (Or.inr rfl)) rfl
theorem eX0_init_10 : WP (MX0_init g) Q (10, [l0, l1, l2, some (.long x), l4, l5, l6, l7, l8], st, w, k, n) = WP (MX0_init g) Q (11, [l0, l1, l2, some (.long x), l4, l5, l6, l7, l8], .long x :: st, w, k, n) := Eq.trans (WP_at (M := (MX0_init g)) rfl dX0_init_10 (Or.inr rfl)) rfl
theorem eX0_init_11 : WP (MX0_init g) Q (11, [l0, l1, l2, l3, l4, l5, l6, l7, l8], v :: .ref p :: st, w, k, n) = go (w p) 4 fun fs => 1 < fs.length ∧ (narrow (.long) v = v ∧ fits (.long) v = true) ∧ WP (MX0_init g) Q (14, [l0, l1, l2, l3, l4, l5, l6, l7, l8], st, upw w p (.inr (4, fs.set 1 v)), k, n) := put_e (q := (RX0, TX0, 4)) rfl dX0_init_11 rfl rfl (tyX0_ok 1 (by decide)) (Or.inr ⟨rfl, rfl⟩)
theorem eX0_init_14 : WP (MX0_init g) Q (14, [some (.ref p), l1, l2, l3, l4, l5, l6, l7, l8], st, w, k, n) = WP (MX0_init g) Q (15, [some (.ref p), l1, l2, l3, l4, l5, l6, l7, l8], .ref p :: st, w, k, n) := Eq.trans (WP_at (M := (MX0_init g)) rfl dX0_init_14 (Or.inr rfl)) rfl
theorem eX0_init_14N : WP (MX0_init g) Q (14, [some .null, l1, l2, l3, l4, l5, l6, l7, l8], st, w, k, n) = WP (MX0_init g) Q (15, [some .null, l1, l2, l3, l4, l5, l6, l7, l8], .null :: st, w, k, n) := Eq.trans (WP_at (M := (MX0_init g)) rfl dX0_init_14 (Or.inr rfl)) rfl
theorem eX0_init_15 : WP (MX0_init g) Q (15, [l0, l1, l2, l3, l4, some (.long x), l6, l7, l8], st, w, k, n) = WP (MX0_init g) Q (17, [l0, l1, l2, l3, l4, some (.long x), l6, l7, l8], .long x :: st, w, k, n) := Eq.trans (WP_at (M := (MX0_init g)) rfl dX0_init_15 (Or.inr rfl)) rfl
theorem eX0_init_17 : WP (MX0_init g) Q (17, [l0, l1, l2, l3, l4, l5, l6, l7, l8], v :: .ref p :: st, w, k, n) = go (w p) 4 fun fs => 2 < fs.length ∧ (narrow (.long) v = v ∧ fits (.long) v = true) ∧ WP (MX0_init g) Q (20, [l0, l1, l2, l3, l4, l5, l6, l7, l8], st, upw w p (.inr (4, fs.set 2 v)), k, n) := put_e (q := (RX0, TX0, 4)) rfl dX0_init_17 rfl rfl (tyX0_ok 2 (by decide)) (Or.inr ⟨rfl, rfl⟩)
theorem eX0_init_20 : WP (MX0_init g) Q (20, [some (.ref p), l1, l2, l3, l4, l5, l6, l7, l8], st, w, k, n) = WP (MX0_init g) Q (21, [some (.ref p), l1, l2, l3, l4, l5, l6, l7, l8], .ref p :: st, w, k, n) := Eq.trans (WP_at (M := (MX0_init g)) rfl dX0_init_20 (Or.inr rfl)) rfl
theorem eX0_init_20N : WP (MX0_init g) Q (20, [some .null, l1, l2, l3, l4, l5, l6, l7, l8], st, w, k, n) = WP (MX0_init g) Q (21, [some .null, l1, l2, l3, l4, l5, l6, l7, l8], .null :: st, w, k, n) := Eq.trans (WP_at (M := (MX0_init g)) rfl dX0_init_20 (Or.inr rfl)) rfl
theorem eX0_init_21 : WP (MX0_init g) Q (21, [l0, l1, l2, l3, l4, l5, l6, some (.long x), l8], st, w, k, n) = WP (MX0_init g) Q (23, [l0, l1, l2, l3, l4, l5, l6, some (.long x), l8], .long x :: st, w, k, n) := Eq.trans (WP_at (M := (MX0_init g)) rfl dX0_init_21 (Or.inr rfl)) rfl
theorem eX0_init_23 : WP (MX0_init g) Q (23, [l0, l1, l2, l3, l4, l5, l6, l7, l8], v :: .ref p :: st, w, k, n) = go (w p) 4 fun fs => 3 < fs.length ∧ (narrow (.long) v = v ∧ fits (.long) v = true) ∧ WP (MX0_init g) Q (26, [l0, l1, l2, l3, l4, l5, l6, l7, l8], st, upw w p (.inr (4, fs.set 3 v)), k, n) := put_e (q := (RX0, TX0, 4)) rfl dX0_init_23 rfl rfl (tyX0_ok 3 (by decide)) (Or.inr ⟨rfl, rfl⟩)
theorem eX0_init_26 : WP (MX0_init g) Q (26, [l0, l1, l2, l3, l4, l5, l6, l7, l8], [], w, k, n) = (k ≤ 0 ∧ n ≤ 0 ∧ Q (.inl none) w) := vret_e rfl dX0_init_26 rfl
end
theorem iW_4 : ∀ w ∈ u_ws RX0 TX0 4, w ∈ WS := fun w h => (fun q => WS_in q.1 q.2) ((show ∀ w ∈ u_ws RX0 TX0 4, w ∈ lw_tbl ∧ goodWord w = true by decide +kernel) w h)
theorem wk_159 : (.fieldLink RX0 9 "Rangecard$Range" "least" "J" : Jvm.Cond) ∈ WS := WS_at 159 (by decide +kernel) rfl
theorem vF_RX0_9 : vFld RX0 9 4 0 := ⟨RX0, TX0, 4, tyX0, "Rangecard$Range", rfl, by decide, iW_4, tyX0_ok, nmX0, Or.inl rfl, Or.inl wk_159⟩
theorem wk_161 : (.fieldLink RX0 15 "Rangecard$Range" "leastAtMost" "J" : Jvm.Cond) ∈ WS := WS_at 161 (by decide +kernel) rfl
theorem vF_RX0_15 : vFld RX0 15 4 1 := ⟨RX0, TX0, 4, tyX0, "Rangecard$Range", rfl, by decide, iW_4, tyX0_ok, nmX0, Or.inl rfl, Or.inl wk_161⟩
theorem wk_163 : (.fieldLink RX0 18 "Rangecard$Range" "greatestAtLeast" "J" : Jvm.Cond) ∈ WS := WS_at 163 (by decide +kernel) rfl
theorem vF_RX0_18 : vFld RX0 18 4 2 := ⟨RX0, TX0, 4, tyX0, "Rangecard$Range", rfl, by decide, iW_4, tyX0_ok, nmX0, Or.inl rfl, Or.inl wk_163⟩
theorem wk_165 : (.fieldLink RX0 21 "Rangecard$Range" "greatest" "J" : Jvm.Cond) ∈ WS := WS_at 165 (by decide +kernel) rfl
theorem vF_RX0_21 : vFld RX0 21 4 3 := ⟨RX0, TX0, 4, tyX0, "Rangecard$Range", rfl, by decide, iW_4, tyX0_ok, nmX0, Or.inl rfl, Or.inl wk_165⟩
theorem wk_158 : (.methodLink RX0 3 Lib.objectInit : Jvm.Cond) ∈ WS := WS_at 158 (by decide +kernel) rfl
theorem vMX0_init {l : Launch} (hl : l.stackTraces = false) (G : GT) : vM l G (MX0_init (gg G)) := ⟨fun i c j h => lookup_all (l := (MX0_init (gg G)).fld) (P := fun i e => vFld RX0 i e.1 e.2) (all_c (vF_RX0_9) (all_c (vF_RX0_15) (all_c (vF_RX0_18) (all_c (vF_RX0_21) (all_n))))) i (c, j) h, fun i c fs h => lookup_all (l := (MX0_init (gg G)).new) (P := fun i e => vNew RX0 i e.1 e.2) (all_n) i (c, fs) h, lookup_all (l := (MX0_init (gg G)).anew) (P := fun i e => vANew RX0 i e) (all_n), lookup_all (l := (MX0_init (gg G)).lng) (P := fun i e => Jvm.Cond.constantLong RX0 i e ∈ WS) (all_n), lookup_all (l := (MX0_init (gg G)).thr) (P := fun i e => vThr RX0 cX0_init i e) (all_n), fun _ => wk_158, lookup_all (l := (MX0_init (gg G)).cal) (P := fun i e => vCal l G RX0 i e) (all_n), lookup_all (l := (MX0_init (gg G)).stt) (P := fun i e => vStt G RX0 i e) (all_n), lookup_all (l := (MX0_init (gg G)).cst) (P := fun i e => vCst RX0 i e) (all_n), fun h => absurd rfl h, rfl, all_n⟩
theorem okX0_init {l : Launch} (hl : l.stackTraces = false) {G : GT} : ∀ (args : List Value) (w : Hw) (S : Ot → Hw → Prop), spOf (MX0_init (gg G)) args w S → CX l G yX0_init (.code yX0_init cX0_init 9 (none)) 1 0 0 args w S := CX_sp (M := MX0_init (gg G)) (y := yX0_init) hl (by decide) rfl (vMX0_init hl G) (fun h => rfl) rfl
/-! Rangecard$Range.isInOrder(JJJJ)Z -/
theorem dX0_isInOrder_0 : decode cX0_isInOrder 0 = .ok (.lload_n 0, 1) := by decide +kernel
theorem dX0_isInOrder_1 : decode cX0_isInOrder 1 = .ok (.lload_n 2, 1) := by decide +kernel
theorem dX0_isInOrder_2 : decode cX0_isInOrder 2 = .ok (.lcmp, 1) := by decide +kernel
theorem dX0_isInOrder_3 : decode cX0_isInOrder 3 = .ok (.ifCond .gt 29, 3) := by decide +kernel
theorem dX0_isInOrder_6 : decode cX0_isInOrder 6 = .ok (.lload 4, 2) := by decide +kernel
theorem dX0_isInOrder_8 : decode cX0_isInOrder 8 = .ok (.lload 6, 2) := by decide +kernel
theorem dX0_isInOrder_10 : decode cX0_isInOrder 10 = .ok (.lcmp, 1) := by decide +kernel
theorem dX0_isInOrder_11 : decode cX0_isInOrder 11 = .ok (.ifCond .gt 21, 3) := by decide +kernel
theorem dX0_isInOrder_14 : decode cX0_isInOrder 14 = .ok (.lload_n 0, 1) := by decide +kernel
theorem dX0_isInOrder_15 : decode cX0_isInOrder 15 = .ok (.lload 4, 2) := by decide +kernel
theorem dX0_isInOrder_17 : decode cX0_isInOrder 17 = .ok (.lcmp, 1) := by decide +kernel
theorem dX0_isInOrder_18 : decode cX0_isInOrder 18 = .ok (.ifCond .gt 14, 3) := by decide +kernel
theorem dX0_isInOrder_21 : decode cX0_isInOrder 21 = .ok (.lload_n 2, 1) := by decide +kernel
theorem dX0_isInOrder_22 : decode cX0_isInOrder 22 = .ok (.lload 6, 2) := by decide +kernel
theorem dX0_isInOrder_24 : decode cX0_isInOrder 24 = .ok (.lcmp, 1) := by decide +kernel
theorem dX0_isInOrder_25 : decode cX0_isInOrder 25 = .ok (.ifCond .gt 7, 3) := by decide +kernel
theorem dX0_isInOrder_28 : decode cX0_isInOrder 28 = .ok (.iconst 1, 1) := by decide +kernel
theorem dX0_isInOrder_29 : decode cX0_isInOrder 29 = .ok (.goto 4, 3) := by decide +kernel
theorem dX0_isInOrder_32 : decode cX0_isInOrder 32 = .ok (.iconst 0, 1) := by decide +kernel
theorem dX0_isInOrder_33 : decode cX0_isInOrder 33 = .ok (.ireturn, 1) := by decide +kernel
def MX0_isInOrder (g : RO) : MT := ((RX0, cX0_isInOrder, 8, 1, 0, 0, false, some .boolean), [], [], [], [], [], 0, [], [], [], 0, [], [], g)
section
variable {g : RO} {Q : Ot → Hw → Prop} {st : List Value} {w : Hw} {k n p q : Nat} {a b : Int32} {x y : Int64} {u v : Value} {l0 l1 l2 l3 l4 l5 l6 l7 : Option Value}
theorem eX0_isInOrder_0 : WP (MX0_isInOrder g) Q (0, [some (.long x), l1, l2, l3, l4, l5, l6, l7], st, w, k, n) = WP (MX0_isInOrder g) Q (1, [some (.long x), l1, l2, l3, l4, l5, l6, l7], .long x :: st, w, k, n) := Eq.trans (WP_at (M := (MX0_isInOrder g)) rfl dX0_isInOrder_0 (Or.inr rfl)) rfl
theorem eX0_isInOrder_1 : WP (MX0_isInOrder g) Q (1, [l0, l1, some (.long x), l3, l4, l5, l6, l7], st, w, k, n) = WP (MX0_isInOrder g) Q (2, [l0, l1, some (.long x), l3, l4, l5, l6, l7], .long x :: st, w, k, n) := Eq.trans (WP_at (M := (MX0_isInOrder g)) rfl dX0_isInOrder_1 (Or.inr rfl)) rfl
theorem eX0_isInOrder_2 : WP (MX0_isInOrder g) Q (2, [l0, l1, l2, l3, l4, l5, l6, l7], .long y :: .long x :: st, w, k, n) = WP (MX0_isInOrder g) Q (3, [l0, l1, l2, l3, l4, l5, l6, l7], .int (lg_cmp x y) :: st, w, k, n) := Eq.trans (WP_at (M := (MX0_isInOrder g)) rfl dX0_isInOrder_2 (Or.inr rfl)) rfl
theorem eX0_isInOrder_3 : WP (MX0_isInOrder g) Q (3, [l0, l1, l2, l3, l4, l5, l6, l7], .int a :: st, w, k, n) = if 0 < a then WP (MX0_isInOrder g) Q (32, [l0, l1, l2, l3, l4, l5, l6, l7], st, w, k, n) else WP (MX0_isInOrder g) Q (6, [l0, l1, l2, l3, l4, l5, l6, l7], st, w, k, n) := ifc_e (0 < a) rfl dX0_isInOrder_3 rfl (by decide)
theorem eX0_isInOrder_6 : WP (MX0_isInOrder g) Q (6, [l0, l1, l2, l3, some (.long x), l5, l6, l7], st, w, k, n) = WP (MX0_isInOrder g) Q (8, [l0, l1, l2, l3, some (.long x), l5, l6, l7], .long x :: st, w, k, n) := Eq.trans (WP_at (M := (MX0_isInOrder g)) rfl dX0_isInOrder_6 (Or.inr rfl)) rfl
theorem eX0_isInOrder_8 : WP (MX0_isInOrder g) Q (8, [l0, l1, l2, l3, l4, l5, some (.long x), l7], st, w, k, n) = WP (MX0_isInOrder g) Q (10, [l0, l1, l2, l3, l4, l5, some (.long x), l7], .long x :: st, w, k, n) := Eq.trans (WP_at (M := (MX0_isInOrder g)) rfl dX0_isInOrder_8 (Or.inr rfl)) rfl
theorem eX0_isInOrder_10 : WP (MX0_isInOrder g) Q (10, [l0, l1, l2, l3, l4, l5, l6, l7], .long y :: .long x :: st, w, k, n) = WP (MX0_isInOrder g) Q (11, [l0, l1, l2, l3, l4, l5, l6, l7], .int (lg_cmp x y) :: st, w, k, n) := Eq.trans (WP_at (M := (MX0_isInOrder g)) rfl dX0_isInOrder_10 (Or.inr rfl)) rfl
theorem eX0_isInOrder_11 : WP (MX0_isInOrder g) Q (11, [l0, l1, l2, l3, l4, l5, l6, l7], .int a :: st, w, k, n) = if 0 < a then WP (MX0_isInOrder g) Q (32, [l0, l1, l2, l3, l4, l5, l6, l7], st, w, k, n) else WP (MX0_isInOrder g) Q (14, [l0, l1, l2, l3, l4, l5, l6, l7], st, w, k, n) := ifc_e (0 < a) rfl dX0_isInOrder_11 rfl (by decide)
theorem eX0_isInOrder_14 : WP (MX0_isInOrder g) Q (14, [some (.long x), l1, l2, l3, l4, l5, l6, l7], st, w, k, n) = WP (MX0_isInOrder g) Q (15, [some (.long x), l1, l2, l3, l4, l5, l6, l7], .long x :: st, w, k, n) := Eq.trans (WP_at (M := (MX0_isInOrder g)) rfl dX0_isInOrder_14 (Or.inr rfl)) rfl
theorem eX0_isInOrder_15 : WP (MX0_isInOrder g) Q (15, [l0, l1, l2, l3, some (.long x), l5, l6, l7], st, w, k, n) = WP (MX0_isInOrder g) Q (17, [l0, l1, l2, l3, some (.long x), l5, l6, l7], .long x :: st, w, k, n) := Eq.trans (WP_at (M := (MX0_isInOrder g)) rfl dX0_isInOrder_15 (Or.inr rfl)) rfl
theorem eX0_isInOrder_17 : WP (MX0_isInOrder g) Q (17, [l0, l1, l2, l3, l4, l5, l6, l7], .long y :: .long x :: st, w, k, n) = WP (MX0_isInOrder g) Q (18, [l0, l1, l2, l3, l4, l5, l6, l7], .int (lg_cmp x y) :: st, w, k, n) := Eq.trans (WP_at (M := (MX0_isInOrder g)) rfl dX0_isInOrder_17 (Or.inr rfl)) rfl
theorem eX0_isInOrder_18 : WP (MX0_isInOrder g) Q (18, [l0, l1, l2, l3, l4, l5, l6, l7], .int a :: st, w, k, n) = if 0 < a then WP (MX0_isInOrder g) Q (32, [l0, l1, l2, l3, l4, l5, l6, l7], st, w, k, n) else WP (MX0_isInOrder g) Q (21, [l0, l1, l2, l3, l4, l5, l6, l7], st, w, k, n) := ifc_e (0 < a) rfl dX0_isInOrder_18 rfl (by decide)
theorem eX0_isInOrder_21 : WP (MX0_isInOrder g) Q (21, [l0, l1, some (.long x), l3, l4, l5, l6, l7], st, w, k, n) = WP (MX0_isInOrder g) Q (22, [l0, l1, some (.long x), l3, l4, l5, l6, l7], .long x :: st, w, k, n) := Eq.trans (WP_at (M := (MX0_isInOrder g)) rfl dX0_isInOrder_21 (Or.inr rfl)) rfl
theorem eX0_isInOrder_22 : WP (MX0_isInOrder g) Q (22, [l0, l1, l2, l3, l4, l5, some (.long x), l7], st, w, k, n) = WP (MX0_isInOrder g) Q (24, [l0, l1, l2, l3, l4, l5, some (.long x), l7], .long x :: st, w, k, n) := Eq.trans (WP_at (M := (MX0_isInOrder g)) rfl dX0_isInOrder_22 (Or.inr rfl)) rfl
theorem eX0_isInOrder_24 : WP (MX0_isInOrder g) Q (24, [l0, l1, l2, l3, l4, l5, l6, l7], .long y :: .long x :: st, w, k, n) = WP (MX0_isInOrder g) Q (25, [l0, l1, l2, l3, l4, l5, l6, l7], .int (lg_cmp x y) :: st, w, k, n) := Eq.trans (WP_at (M := (MX0_isInOrder g)) rfl dX0_isInOrder_24 (Or.inr rfl)) rfl
theorem eX0_isInOrder_25 : WP (MX0_isInOrder g) Q (25, [l0, l1, l2, l3, l4, l5, l6, l7], .int a :: st, w, k, n) = if 0 < a then WP (MX0_isInOrder g) Q (32, [l0, l1, l2, l3, l4, l5, l6, l7], st, w, k, n) else WP (MX0_isInOrder g) Q (28, [l0, l1, l2, l3, l4, l5, l6, l7], st, w, k, n) := ifc_e (0 < a) rfl dX0_isInOrder_25 rfl (by decide)
theorem eX0_isInOrder_28 : WP (MX0_isInOrder g) Q (28, [l0, l1, l2, l3, l4, l5, l6, l7], st, w, k, n) = WP (MX0_isInOrder g) Q (29, [l0, l1, l2, l3, l4, l5, l6, l7], .int 1 :: st, w, k, n) := iconst_e rfl dX0_isInOrder_28 (by decide)
theorem eX0_isInOrder_29 : WP (MX0_isInOrder g) Q (29, [l0, l1, l2, l3, l4, l5, l6, l7], st, w, k, n) = WP (MX0_isInOrder g) Q (33, [l0, l1, l2, l3, l4, l5, l6, l7], st, w, k, n) := goto_e rfl dX0_isInOrder_29 (by decide)
theorem eX0_isInOrder_32 : WP (MX0_isInOrder g) Q (32, [l0, l1, l2, l3, l4, l5, l6, l7], st, w, k, n) = WP (MX0_isInOrder g) Q (33, [l0, l1, l2, l3, l4, l5, l6, l7], .int 0 :: st, w, k, n) := iconst_e rfl dX0_isInOrder_32 (by decide)
theorem eX0_isInOrder_33 : WP (MX0_isInOrder g) Q (33, [l0, l1, l2, l3, l4, l5, l6, l7], [.int a], w, k, n) = (narrow (.boolean) (.int a) = .int a ∧ k ≤ 0 ∧ n ≤ 0 ∧ Q (.inl (some (.int a))) w) := iret_e rfl dX0_isInOrder_33 rfl
end
theorem vMX0_isInOrder {l : Launch} (hl : l.stackTraces = false) (G : GT) : vM l G (MX0_isInOrder (gg G)) := ⟨fun i c j h => lookup_all (l := (MX0_isInOrder (gg G)).fld) (P := fun i e => vFld RX0 i e.1 e.2) (all_n) i (c, j) h, fun i c fs h => lookup_all (l := (MX0_isInOrder (gg G)).new) (P := fun i e => vNew RX0 i e.1 e.2) (all_n) i (c, fs) h, lookup_all (l := (MX0_isInOrder (gg G)).anew) (P := fun i e => vANew RX0 i e) (all_n), lookup_all (l := (MX0_isInOrder (gg G)).lng) (P := fun i e => Jvm.Cond.constantLong RX0 i e ∈ WS) (all_n), lookup_all (l := (MX0_isInOrder (gg G)).thr) (P := fun i e => vThr RX0 cX0_isInOrder i e) (all_n), fun h => absurd rfl h, lookup_all (l := (MX0_isInOrder (gg G)).cal) (P := fun i e => vCal l G RX0 i e) (all_n), lookup_all (l := (MX0_isInOrder (gg G)).stt) (P := fun i e => vStt G RX0 i e) (all_n), lookup_all (l := (MX0_isInOrder (gg G)).cst) (P := fun i e => vCst RX0 i e) (all_n), fun h => absurd rfl h, rfl, all_n⟩
theorem okX0_isInOrder {l : Launch} (hl : l.stackTraces = false) {G : GT} : ∀ (args : List Value) (w : Hw) (S : Ot → Hw → Prop), spOf (MX0_isInOrder (gg G)) args w S → CX l G yX0_isInOrder (.code yX0_isInOrder cX0_isInOrder 8 (some .boolean)) 1 0 0 args w S := CX_sp (M := MX0_isInOrder (gg G)) (y := yX0_isInOrder) hl (by decide) rfl (vMX0_isInOrder hl G) (fun h => by cases h) rfl
/-! Rangecard$Range.ofFour(JJJJ)LRangecard$Range; -/
theorem dX0_ofFour_0 : decode cX0_ofFour 0 = .ok (.lload_n 0, 1) := by decide +kernel
theorem dX0_ofFour_1 : decode cX0_ofFour 1 = .ok (.lload_n 2, 1) := by decide +kernel
theorem dX0_ofFour_2 : decode cX0_ofFour 2 = .ok (.lload 4, 2) := by decide +kernel
theorem dX0_ofFour_4 : decode cX0_ofFour 4 = .ok (.lload 6, 2) := by decide +kernel
theorem dX0_ofFour_6 : decode cX0_ofFour 6 = .ok (.invokestatic 24, 3) := by decide +kernel
theorem dX0_ofFour_9 : decode cX0_ofFour 9 = .ok (.ifCond .eq 19, 3) := by decide +kernel
theorem dX0_ofFour_12 : decode cX0_ofFour 12 = .ok (.new 10, 3) := by decide +kernel
theorem dX0_ofFour_15 : decode cX0_ofFour 15 = .ok (.dup, 1) := by decide +kernel
theorem dX0_ofFour_16 : decode cX0_ofFour 16 = .ok (.lload_n 0, 1) := by decide +kernel
theorem dX0_ofFour_17 : decode cX0_ofFour 17 = .ok (.lload_n 2, 1) := by decide +kernel
theorem dX0_ofFour_18 : decode cX0_ofFour 18 = .ok (.lload 4, 2) := by decide +kernel
theorem dX0_ofFour_20 : decode cX0_ofFour 20 = .ok (.lload 6, 2) := by decide +kernel
theorem dX0_ofFour_22 : decode cX0_ofFour 22 = .ok (.invokespecial 28, 3) := by decide +kernel
theorem dX0_ofFour_25 : decode cX0_ofFour 25 = .ok (.goto 4, 3) := by decide +kernel
theorem dX0_ofFour_28 : decode cX0_ofFour 28 = .ok (.aconst_null, 1) := by decide +kernel
theorem dX0_ofFour_29 : decode cX0_ofFour 29 = .ok (.areturn, 1) := by decide +kernel
def MX0_ofFour (g : RO) : MT := ((RX0, cX0_ofFour, 8, 2, 1, 4, false, some (.object "Rangecard$Range")), [], [(10, 4, [.long 0, .long 0, .long 0, .long 0])], [], [], [], 0, [(24, 0, 4, 0, 1, (fun _ _ => 0), (fun _ _ => 0), yX0_isInOrder, spOf (MX0_isInOrder g)), (28, 4, 5, 4, 1, (fun _ _ => 0), (fun _ _ => 0), yX0_init, spOf (MX0_init g))], [], [], 0, [], [], g)
section
variable {g : RO} {Q : Ot → Hw → Prop} {st : List Value} {w : Hw} {k n p q : Nat} {a b : Int32} {x y : Int64} {u v : Value} {l0 l1 l2 l3 l4 l5 l6 l7 : Option Value}
theorem eX0_ofFour_0 : WP (MX0_ofFour g) Q (0, [some (.long x), l1, l2, l3, l4, l5, l6, l7], st, w, k, n) = WP (MX0_ofFour g) Q (1, [some (.long x), l1, l2, l3, l4, l5, l6, l7], .long x :: st, w, k, n) := Eq.trans (WP_at (M := (MX0_ofFour g)) rfl dX0_ofFour_0 (Or.inr rfl)) rfl
theorem eX0_ofFour_1 : WP (MX0_ofFour g) Q (1, [l0, l1, some (.long x), l3, l4, l5, l6, l7], st, w, k, n) = WP (MX0_ofFour g) Q (2, [l0, l1, some (.long x), l3, l4, l5, l6, l7], .long x :: st, w, k, n) := Eq.trans (WP_at (M := (MX0_ofFour g)) rfl dX0_ofFour_1 (Or.inr rfl)) rfl
theorem eX0_ofFour_2 : WP (MX0_ofFour g) Q (2, [l0, l1, l2, l3, some (.long x), l5, l6, l7], st, w, k, n) = WP (MX0_ofFour g) Q (4, [l0, l1, l2, l3, some (.long x), l5, l6, l7], .long x :: st, w, k, n) := Eq.trans (WP_at (M := (MX0_ofFour g)) rfl dX0_ofFour_2 (Or.inr rfl)) rfl
theorem eX0_ofFour_4 : WP (MX0_ofFour g) Q (4, [l0, l1, l2, l3, l4, l5, some (.long x), l7], st, w, k, n) = WP (MX0_ofFour g) Q (6, [l0, l1, l2, l3, l4, l5, some (.long x), l7], .long x :: st, w, k, n) := Eq.trans (WP_at (M := (MX0_ofFour g)) rfl dX0_ofFour_4 (Or.inr rfl)) rfl
theorem eX0_ofFour_6 {z0 : Int64} {z1 : Int64} {z2 : Int64} {z3 : Int64} : WP (MX0_ofFour g) Q (6, [l0, l1, l2, l3, l4, l5, l6, l7], .long z3 :: .long z2 :: .long z1 :: .long z0 :: st, w, k, n) = (wt st ≤ 8 ∧ k + 0 ≤ 1 ∧ n + 0 ≤ 4 ∧ WP (MX0_isInOrder g) (kx (fun v w' => WP (MX0_ofFour g) Q (9, [l0, l1, l2, l3, l4, l5, l6, l7], v.toList ++ st, w', k + 0, n + 0)) (fun E w' => Q (.inr E) w')) (0, [some (.long z0), none, some (.long z1), none, some (.long z2), none, some (.long z3), none], [], w, 0, 0)) := csS (M := (MX0_ofFour g)) (mc := (fun _ _ => 0)) (ms := (fun _ _ => 0)) (As := [.long z0, .long z1, .long z2, .long z3]) (rest := st) (MX0_isInOrder g) rfl rfl dX0_ofFour_6 (Nat.ne_of_beq_eq_false rfl) (by exact fun h => nomatch (show (none : Option Nat) = some 12 from h)) (by exact fun h => nomatch (show (none : Option Nat) = some 13 from h)) (by exact fun h => nomatch (show (none : Option Nat) = some 14 from h)) rfl rfl (by decide) (Nat.le_of_ble_eq_true rfl) (Nat.le_of_ble_eq_true rfl) rfl
theorem eX0_ofFour_9 : WP (MX0_ofFour g) Q (9, [l0, l1, l2, l3, l4, l5, l6, l7], .int a :: st, w, k, n) = if a = 0 then WP (MX0_ofFour g) Q (28, [l0, l1, l2, l3, l4, l5, l6, l7], st, w, k, n) else WP (MX0_ofFour g) Q (12, [l0, l1, l2, l3, l4, l5, l6, l7], st, w, k, n) := ifc_e (a = 0) rfl dX0_ofFour_9 rfl (by decide)
theorem eX0_ofFour_12 : WP (MX0_ofFour g) Q (12, [l0, l1, l2, l3, l4, l5, l6, l7], st, w, k, n) = (k + 1 ≤ 1 ∧ n + 4 ≤ 4 ∧ ∀ q : Nat, rd g w q = none → WP (MX0_ofFour g) Q (15, [l0, l1, l2, l3, l4, l5, l6, l7], .ref q :: st, upw w q (.inr (4, [.long 0, .long 0, .long 0, .long 0])), k + 1, n + 4)) := Eq.trans (new_e (M := (MX0_ofFour g)) (fs := [.long 0, .long 0, .long 0, .long 0]) rfl dX0_ofFour_12 rfl) rfl
theorem eX0_ofFour_15 : WP (MX0_ofFour g) Q (15, [l0, l1, l2, l3, l4, l5, l6, l7], .int a :: st, w, k, n) = WP (MX0_ofFour g) Q (16, [l0, l1, l2, l3, l4, l5, l6, l7], .int a :: .int a :: st, w, k, n) := by rw [WP_at (M := (MX0_ofFour g)) rfl dX0_ofFour_15 (Or.inr rfl)]; exact and_t rfl
theorem eX0_ofFour_15R : WP (MX0_ofFour g) Q (15, [l0, l1, l2, l3, l4, l5, l6, l7], .ref p :: st, w, k, n) = WP (MX0_ofFour g) Q (16, [l0, l1, l2, l3, l4, l5, l6, l7], .ref p :: .ref p :: st, w, k, n) := by rw [WP_at (M := (MX0_ofFour g)) rfl dX0_ofFour_15 (Or.inr rfl)]; exact and_t rfl
theorem eX0_ofFour_16 : WP (MX0_ofFour g) Q (16, [some (.long x), l1, l2, l3, l4, l5, l6, l7], st, w, k, n) = WP (MX0_ofFour g) Q (17, [some (.long x), l1, l2, l3, l4, l5, l6, l7], .long x :: st, w, k, n) := Eq.trans (WP_at (M := (MX0_ofFour g)) rfl dX0_ofFour_16 (Or.inr rfl)) rfl
theorem eX0_ofFour_17 : WP (MX0_ofFour g) Q (17, [l0, l1, some (.long x), l3, l4, l5, l6, l7], st, w, k, n) = WP (MX0_ofFour g) Q (18, [l0, l1, some (.long x), l3, l4, l5, l6, l7], .long x :: st, w, k, n) := Eq.trans (WP_at (M := (MX0_ofFour g)) rfl dX0_ofFour_17 (Or.inr rfl)) rfl
theorem eX0_ofFour_18 : WP (MX0_ofFour g) Q (18, [l0, l1, l2, l3, some (.long x), l5, l6, l7], st, w, k, n) = WP (MX0_ofFour g) Q (20, [l0, l1, l2, l3, some (.long x), l5, l6, l7], .long x :: st, w, k, n) := Eq.trans (WP_at (M := (MX0_ofFour g)) rfl dX0_ofFour_18 (Or.inr rfl)) rfl
theorem eX0_ofFour_20 : WP (MX0_ofFour g) Q (20, [l0, l1, l2, l3, l4, l5, some (.long x), l7], st, w, k, n) = WP (MX0_ofFour g) Q (22, [l0, l1, l2, l3, l4, l5, some (.long x), l7], .long x :: st, w, k, n) := Eq.trans (WP_at (M := (MX0_ofFour g)) rfl dX0_ofFour_20 (Or.inr rfl)) rfl
theorem eX0_ofFour_22 {z0 : Int64} {z1 : Int64} {z2 : Int64} {z3 : Int64} : WP (MX0_ofFour g) Q (22, [l0, l1, l2, l3, l4, l5, l6, l7], .long z3 :: .long z2 :: .long z1 :: .long z0 :: .ref p :: st, w, k, n) = (wt st ≤ 8 ∧ k + 0 ≤ 1 ∧ n + 0 ≤ 4 ∧ WP (MX0_init g) (kx (fun v w' => WP (MX0_ofFour g) Q (25, [l0, l1, l2, l3, l4, l5, l6, l7], v.toList ++ st, w', k + 0, n + 0)) (fun E w' => Q (.inr E) w')) (0, [some (.ref p), some (.long z0), none, some (.long z1), none, some (.long z2), none, some (.long z3), none], [], w, 0, 0)) := csI (M := (MX0_ofFour g)) (mc := (fun _ _ => 0)) (ms := (fun _ _ => 0)) (As := [.long z0, .long z1, .long z2, .long z3]) (rest := st) (MX0_init g) rfl rfl dX0_ofFour_22 (Nat.ne_of_beq_eq_false rfl) rfl rfl (Nat.le_of_ble_eq_true rfl) (Nat.le_of_ble_eq_true rfl) rfl
theorem eX0_ofFour_25 : WP (MX0_ofFour g) Q (25, [l0, l1, l2, l3, l4, l5, l6, l7], st, w, k, n) = WP (MX0_ofFour g) Q (29, [l0, l1, l2, l3, l4, l5, l6, l7], st, w, k, n) := goto_e rfl dX0_ofFour_25 (by decide)
theorem eX0_ofFour_28 : WP (MX0_ofFour g) Q (28, [l0, l1, l2, l3, l4, l5, l6, l7], st, w, k, n) = WP (MX0_ofFour g) Q (29, [l0, l1, l2, l3, l4, l5, l6, l7], .null :: st, w, k, n) := Eq.trans (WP_at (M := (MX0_ofFour g)) rfl dX0_ofFour_28 (Or.inr rfl)) rfl
theorem eX0_ofFour_29 : WP (MX0_ofFour g) Q (29, [l0, l1, l2, l3, l4, l5, l6, l7], [.ref p], w, k, n) = (k ≤ 1 ∧ n ≤ 4 ∧ Q (.inl (some (.ref p))) w) := aretR_e rfl dX0_ofFour_29 rfl
theorem eX0_ofFour_29N : WP (MX0_ofFour g) Q (29, [l0, l1, l2, l3, l4, l5, l6, l7], [.null], w, k, n) = (k ≤ 1 ∧ n ≤ 4 ∧ Q (.inl (some .null)) w) := aretN_e rfl dX0_ofFour_29 rfl
end
theorem wk_153 : (.classLink RX0 10 RX0 : Jvm.Cond) ∈ WS := WS_at 153 (by decide +kernel) rfl
theorem wk_154 : (.instantiable RX0 4 : Jvm.Cond) ∈ WS := WS_at 154 (by decide +kernel) rfl
theorem wk_84 : (.initialized RX0 : Jvm.Cond) ∈ WS := WS_at 84 (by decide +kernel) rfl
theorem vN_RX0_10 : vNew RX0 10 4 [.long 0, .long 0, .long 0, .long 0] := ⟨RX0, TX0, tyX0, rfl, iW_4, tyX0_ok, wk_153, wk_154, wk_84, fun j hj => by match j, hj with | 0, _ => rfl | 1, _ => rfl | 2, _ => rfl | 3, _ => rfl | j + 4, hj => exact absurd hj (Nat.not_lt.mpr (Nat.le_add_left _ _))⟩
theorem wk_152 : (.code yX0_isInOrder cX0_isInOrder 8 (some .boolean) : Jvm.Cond) ∈ WS := WS_at 152 (by decide +kernel) rfl
theorem wk_150 : (.methodLink RX0 24 yX0_isInOrder : Jvm.Cond) ∈ WS := WS_at 150 (by decide +kernel) rfl
theorem wk_151 : (.static yX0_isInOrder : Jvm.Cond) ∈ WS := WS_at 151 (by decide +kernel) rfl
theorem wk_157 : (.code yX0_init cX0_init 9 (none) : Jvm.Cond) ∈ WS := WS_at 157 (by decide +kernel) rfl
theorem wk_155 : (.methodLink RX0 28 yX0_init : Jvm.Cond) ∈ WS := WS_at 155 (by decide +kernel) rfl
theorem wk_156 : (.instanceMethod yX0_init : Jvm.Cond) ∈ WS := WS_at 156 (by decide +kernel) rfl
theorem vMX0_ofFour {l : Launch} (hl : l.stackTraces = false) (G : GT) : vM l G (MX0_ofFour (gg G)) := ⟨fun i c j h => lookup_all (l := (MX0_ofFour (gg G)).fld) (P := fun i e => vFld RX0 i e.1 e.2) (all_n) i (c, j) h, fun i c fs h => lookup_all (l := (MX0_ofFour (gg G)).new) (P := fun i e => vNew RX0 i e.1 e.2) (all_c (vN_RX0_10) (all_n)) i (c, fs) h, lookup_all (l := (MX0_ofFour (gg G)).anew) (P := fun i e => vANew RX0 i e) (all_n), lookup_all (l := (MX0_ofFour (gg G)).lng) (P := fun i e => Jvm.Cond.constantLong RX0 i e ∈ WS) (all_n), lookup_all (l := (MX0_ofFour (gg G)).thr) (P := fun i e => vThr RX0 cX0_ofFour i e) (all_n), fun h => absurd rfl h, lookup_all (l := (MX0_ofFour (gg G)).cal) (P := fun i e => vCal l G RX0 i e) (all_c (⟨cX0_isInOrder, 8, some .boolean, fun y hy => by subst hy; exact ⟨by decide, ⟨_, wk_152, okX0_isInOrder hl, Or.inl ⟨Nat.ne_of_beq_eq_false rfl, rfl⟩⟩, wk_84, ⟨(by decide : yX0_isInOrder.cls ≠ "java/lang/invoke/MethodHandle"), (by decide : yX0_isInOrder.cls ≠ "java/lang/invoke/VarHandle")⟩, ⟨(by decide +kernel : (parseMethodDescriptor yX0_isInOrder.desc).map (fun d => d.parameters.length) = some 4), wk_150, wk_151⟩⟩⟩) (all_c (⟨cX0_init, 9, none, fun y hy => by subst hy; exact ⟨by decide, ⟨_, wk_157, okX0_init hl, Or.inl ⟨Nat.ne_of_beq_eq_false rfl, rfl⟩⟩, wk_84, ⟨(by decide : yX0_init.cls ≠ "java/lang/invoke/MethodHandle"), (by decide : yX0_init.cls ≠ "java/lang/invoke/VarHandle")⟩, ⟨(by decide +kernel : (parseMethodDescriptor yX0_init.desc).map (fun d => d.parameters.length + 1) = some 5), rfl, wk_155, wk_156, rfl⟩⟩⟩) (all_n))), lookup_all (l := (MX0_ofFour (gg G)).stt) (P := fun i e => vStt G RX0 i e) (all_n), lookup_all (l := (MX0_ofFour (gg G)).cst) (P := fun i e => vCst RX0 i e) (all_n), fun h => absurd rfl h, rfl, all_n⟩
theorem okX0_ofFour {l : Launch} (hl : l.stackTraces = false) {G : GT} : ∀ (args : List Value) (w : Hw) (S : Ot → Hw → Prop), spOf (MX0_ofFour (gg G)) args w S → CX l G yX0_ofFour (.code yX0_ofFour cX0_ofFour 8 (some (.object "Rangecard$Range"))) 2 1 4 args w S := CX_sp (M := MX0_ofFour (gg G)) (y := yX0_ofFour) hl (by decide) rfl (vMX0_ofFour hl G) (fun h => by cases h) rfl
/-! Rangecard$Range.ofThree(JJJ)LRangecard$Range; -/
theorem dX0_ofThree_0 : decode cX0_ofThree 0 = .ok (.lload_n 0, 1) := by decide +kernel
theorem dX0_ofThree_1 : decode cX0_ofThree 1 = .ok (.lload_n 0, 1) := by decide +kernel
theorem dX0_ofThree_2 : decode cX0_ofThree 2 = .ok (.lload_n 2, 1) := by decide +kernel
theorem dX0_ofThree_3 : decode cX0_ofThree 3 = .ok (.lload 4, 2) := by decide +kernel
theorem dX0_ofThree_5 : decode cX0_ofThree 5 = .ok (.invokestatic 31, 3) := by decide +kernel
theorem dX0_ofThree_8 : decode cX0_ofThree 8 = .ok (.areturn, 1) := by decide +kernel
def MX0_ofThree (g : RO) : MT := ((RX0, cX0_ofThree, 6, 3, 1, 4, false, some (.object "Rangecard$Range")), [], [], [], [], [], 0, [(31, 0, 4, 0, 2, (fun _ _ => 1), (fun _ _ => 4), yX0_ofFour, spOf (MX0_ofFour g))], [], [], 0, [], [], g)
section
variable {g : RO} {Q : Ot → Hw → Prop} {st : List Value} {w : Hw} {k n p q : Nat} {a b : Int32} {x y : Int64} {u v : Value} {l0 l1 l2 l3 l4 l5 : Option Value}
theorem eX0_ofThree_0 : WP (MX0_ofThree g) Q (0, [some (.long x), l1, l2, l3, l4, l5], st, w, k, n) = WP (MX0_ofThree g) Q (1, [some (.long x), l1, l2, l3, l4, l5], .long x :: st, w, k, n) := Eq.trans (WP_at (M := (MX0_ofThree g)) rfl dX0_ofThree_0 (Or.inr rfl)) rfl
theorem eX0_ofThree_1 : WP (MX0_ofThree g) Q (1, [some (.long x), l1, l2, l3, l4, l5], st, w, k, n) = WP (MX0_ofThree g) Q (2, [some (.long x), l1, l2, l3, l4, l5], .long x :: st, w, k, n) := Eq.trans (WP_at (M := (MX0_ofThree g)) rfl dX0_ofThree_1 (Or.inr rfl)) rfl
theorem eX0_ofThree_2 : WP (MX0_ofThree g) Q (2, [l0, l1, some (.long x), l3, l4, l5], st, w, k, n) = WP (MX0_ofThree g) Q (3, [l0, l1, some (.long x), l3, l4, l5], .long x :: st, w, k, n) := Eq.trans (WP_at (M := (MX0_ofThree g)) rfl dX0_ofThree_2 (Or.inr rfl)) rfl
theorem eX0_ofThree_3 : WP (MX0_ofThree g) Q (3, [l0, l1, l2, l3, some (.long x), l5], st, w, k, n) = WP (MX0_ofThree g) Q (5, [l0, l1, l2, l3, some (.long x), l5], .long x :: st, w, k, n) := Eq.trans (WP_at (M := (MX0_ofThree g)) rfl dX0_ofThree_3 (Or.inr rfl)) rfl
theorem eX0_ofThree_5 {z0 : Int64} {z1 : Int64} {z2 : Int64} {z3 : Int64} : WP (MX0_ofThree g) Q (5, [l0, l1, l2, l3, l4, l5], .long z3 :: .long z2 :: .long z1 :: .long z0 :: st, w, k, n) = (wt st ≤ 8 ∧ k + 1 ≤ 1 ∧ n + 4 ≤ 4 ∧ WP (MX0_ofFour g) (kx (fun v w' => WP (MX0_ofThree g) Q (8, [l0, l1, l2, l3, l4, l5], v.toList ++ st, w', k + 1, n + 4)) (fun E w' => Q (.inr E) w')) (0, [some (.long z0), none, some (.long z1), none, some (.long z2), none, some (.long z3), none], [], w, 0, 0)) := csS (M := (MX0_ofThree g)) (mc := (fun _ _ => 1)) (ms := (fun _ _ => 4)) (As := [.long z0, .long z1, .long z2, .long z3]) (rest := st) (MX0_ofFour g) rfl rfl dX0_ofThree_5 (Nat.ne_of_beq_eq_false rfl) (by exact fun h => nomatch (show (none : Option Nat) = some 12 from h)) (by exact fun h => nomatch (show (none : Option Nat) = some 13 from h)) (by exact fun h => nomatch (show (none : Option Nat) = some 14 from h)) rfl rfl (by decide) (Nat.le_of_ble_eq_true rfl) (Nat.le_of_ble_eq_true rfl) rfl
theorem eX0_ofThree_8 : WP (MX0_ofThree g) Q (8, [l0, l1, l2, l3, l4, l5], [.ref p], w, k, n) = (k ≤ 1 ∧ n ≤ 4 ∧ Q (.inl (some (.ref p))) w) := aretR_e rfl dX0_ofThree_8 rfl
theorem eX0_ofThree_8N : WP (MX0_ofThree g) Q (8, [l0, l1, l2, l3, l4, l5], [.null], w, k, n) = (k ≤ 1 ∧ n ≤ 4 ∧ Q (.inl (some .null)) w) := aretN_e rfl dX0_ofThree_8 rfl
end
theorem wk_149 : (.code yX0_ofFour cX0_ofFour 8 (some (.object "Rangecard$Range")) : Jvm.Cond) ∈ WS := WS_at 149 (by decide +kernel) rfl
theorem wk_195 : (.methodLink RX0 31 yX0_ofFour : Jvm.Cond) ∈ WS := WS_at 195 (by decide +kernel) rfl
theorem wk_148 : (.static yX0_ofFour : Jvm.Cond) ∈ WS := WS_at 148 (by decide +kernel) rfl
theorem vMX0_ofThree {l : Launch} (hl : l.stackTraces = false) (G : GT) : vM l G (MX0_ofThree (gg G)) := ⟨fun i c j h => lookup_all (l := (MX0_ofThree (gg G)).fld) (P := fun i e => vFld RX0 i e.1 e.2) (all_n) i (c, j) h, fun i c fs h => lookup_all (l := (MX0_ofThree (gg G)).new) (P := fun i e => vNew RX0 i e.1 e.2) (all_n) i (c, fs) h, lookup_all (l := (MX0_ofThree (gg G)).anew) (P := fun i e => vANew RX0 i e) (all_n), lookup_all (l := (MX0_ofThree (gg G)).lng) (P := fun i e => Jvm.Cond.constantLong RX0 i e ∈ WS) (all_n), lookup_all (l := (MX0_ofThree (gg G)).thr) (P := fun i e => vThr RX0 cX0_ofThree i e) (all_n), fun h => absurd rfl h, lookup_all (l := (MX0_ofThree (gg G)).cal) (P := fun i e => vCal l G RX0 i e) (all_c (⟨cX0_ofFour, 8, some (.object "Rangecard$Range"), fun y hy => by subst hy; exact ⟨by decide, ⟨_, wk_149, okX0_ofFour hl, Or.inl ⟨Nat.ne_of_beq_eq_false rfl, rfl⟩⟩, wk_84, ⟨(by decide : yX0_ofFour.cls ≠ "java/lang/invoke/MethodHandle"), (by decide : yX0_ofFour.cls ≠ "java/lang/invoke/VarHandle")⟩, ⟨(by decide +kernel : (parseMethodDescriptor yX0_ofFour.desc).map (fun d => d.parameters.length) = some 4), wk_195, wk_148⟩⟩⟩) (all_n)), lookup_all (l := (MX0_ofThree (gg G)).stt) (P := fun i e => vStt G RX0 i e) (all_n), lookup_all (l := (MX0_ofThree (gg G)).cst) (P := fun i e => vCst RX0 i e) (all_n), fun h => absurd rfl h, rfl, all_n⟩
theorem okX0_ofThree {l : Launch} (hl : l.stackTraces = false) {G : GT} : ∀ (args : List Value) (w : Hw) (S : Ot → Hw → Prop), spOf (MX0_ofThree (gg G)) args w S → CX l G yX0_ofThree (.code yX0_ofThree cX0_ofThree 6 (some (.object "Rangecard$Range"))) 3 1 4 args w S := CX_sp (M := MX0_ofThree (gg G)) (y := yX0_ofThree) hl (by decide) rfl (vMX0_ofThree hl G) (fun h => by cases h) rfl
/-! Rangecard$Range.ofTwo(JJ)LRangecard$Range; -/
theorem dX0_ofTwo_0 : decode cX0_ofTwo 0 = .ok (.lload_n 0, 1) := by decide +kernel
theorem dX0_ofTwo_1 : decode cX0_ofTwo 1 = .ok (.lload_n 0, 1) := by decide +kernel
theorem dX0_ofTwo_2 : decode cX0_ofTwo 2 = .ok (.lload_n 2, 1) := by decide +kernel
theorem dX0_ofTwo_3 : decode cX0_ofTwo 3 = .ok (.lload_n 2, 1) := by decide +kernel
theorem dX0_ofTwo_4 : decode cX0_ofTwo 4 = .ok (.invokestatic 31, 3) := by decide +kernel
theorem dX0_ofTwo_7 : decode cX0_ofTwo 7 = .ok (.areturn, 1) := by decide +kernel
def MX0_ofTwo (g : RO) : MT := ((RX0, cX0_ofTwo, 4, 3, 1, 4, false, some (.object "Rangecard$Range")), [], [], [], [], [], 0, [(31, 0, 4, 0, 2, (fun _ _ => 1), (fun _ _ => 4), yX0_ofFour, spOf (MX0_ofFour g))], [], [], 0, [], [], g)
section
variable {g : RO} {Q : Ot → Hw → Prop} {st : List Value} {w : Hw} {k n p q : Nat} {a b : Int32} {x y : Int64} {u v : Value} {l0 l1 l2 l3 : Option Value}
theorem eX0_ofTwo_0 : WP (MX0_ofTwo g) Q (0, [some (.long x), l1, l2, l3], st, w, k, n) = WP (MX0_ofTwo g) Q (1, [some (.long x), l1, l2, l3], .long x :: st, w, k, n) := Eq.trans (WP_at (M := (MX0_ofTwo g)) rfl dX0_ofTwo_0 (Or.inr rfl)) rfl
theorem eX0_ofTwo_1 : WP (MX0_ofTwo g) Q (1, [some (.long x), l1, l2, l3], st, w, k, n) = WP (MX0_ofTwo g) Q (2, [some (.long x), l1, l2, l3], .long x :: st, w, k, n) := Eq.trans (WP_at (M := (MX0_ofTwo g)) rfl dX0_ofTwo_1 (Or.inr rfl)) rfl
theorem eX0_ofTwo_2 : WP (MX0_ofTwo g) Q (2, [l0, l1, some (.long x), l3], st, w, k, n) = WP (MX0_ofTwo g) Q (3, [l0, l1, some (.long x), l3], .long x :: st, w, k, n) := Eq.trans (WP_at (M := (MX0_ofTwo g)) rfl dX0_ofTwo_2 (Or.inr rfl)) rfl
theorem eX0_ofTwo_3 : WP (MX0_ofTwo g) Q (3, [l0, l1, some (.long x), l3], st, w, k, n) = WP (MX0_ofTwo g) Q (4, [l0, l1, some (.long x), l3], .long x :: st, w, k, n) := Eq.trans (WP_at (M := (MX0_ofTwo g)) rfl dX0_ofTwo_3 (Or.inr rfl)) rfl
theorem eX0_ofTwo_4 {z0 : Int64} {z1 : Int64} {z2 : Int64} {z3 : Int64} : WP (MX0_ofTwo g) Q (4, [l0, l1, l2, l3], .long z3 :: .long z2 :: .long z1 :: .long z0 :: st, w, k, n) = (wt st ≤ 8 ∧ k + 1 ≤ 1 ∧ n + 4 ≤ 4 ∧ WP (MX0_ofFour g) (kx (fun v w' => WP (MX0_ofTwo g) Q (7, [l0, l1, l2, l3], v.toList ++ st, w', k + 1, n + 4)) (fun E w' => Q (.inr E) w')) (0, [some (.long z0), none, some (.long z1), none, some (.long z2), none, some (.long z3), none], [], w, 0, 0)) := csS (M := (MX0_ofTwo g)) (mc := (fun _ _ => 1)) (ms := (fun _ _ => 4)) (As := [.long z0, .long z1, .long z2, .long z3]) (rest := st) (MX0_ofFour g) rfl rfl dX0_ofTwo_4 (Nat.ne_of_beq_eq_false rfl) (by exact fun h => nomatch (show (none : Option Nat) = some 12 from h)) (by exact fun h => nomatch (show (none : Option Nat) = some 13 from h)) (by exact fun h => nomatch (show (none : Option Nat) = some 14 from h)) rfl rfl (by decide) (Nat.le_of_ble_eq_true rfl) (Nat.le_of_ble_eq_true rfl) rfl
theorem eX0_ofTwo_7 : WP (MX0_ofTwo g) Q (7, [l0, l1, l2, l3], [.ref p], w, k, n) = (k ≤ 1 ∧ n ≤ 4 ∧ Q (.inl (some (.ref p))) w) := aretR_e rfl dX0_ofTwo_7 rfl
theorem eX0_ofTwo_7N : WP (MX0_ofTwo g) Q (7, [l0, l1, l2, l3], [.null], w, k, n) = (k ≤ 1 ∧ n ≤ 4 ∧ Q (.inl (some .null)) w) := aretN_e rfl dX0_ofTwo_7 rfl
end
theorem vMX0_ofTwo {l : Launch} (hl : l.stackTraces = false) (G : GT) : vM l G (MX0_ofTwo (gg G)) := ⟨fun i c j h => lookup_all (l := (MX0_ofTwo (gg G)).fld) (P := fun i e => vFld RX0 i e.1 e.2) (all_n) i (c, j) h, fun i c fs h => lookup_all (l := (MX0_ofTwo (gg G)).new) (P := fun i e => vNew RX0 i e.1 e.2) (all_n) i (c, fs) h, lookup_all (l := (MX0_ofTwo (gg G)).anew) (P := fun i e => vANew RX0 i e) (all_n), lookup_all (l := (MX0_ofTwo (gg G)).lng) (P := fun i e => Jvm.Cond.constantLong RX0 i e ∈ WS) (all_n), lookup_all (l := (MX0_ofTwo (gg G)).thr) (P := fun i e => vThr RX0 cX0_ofTwo i e) (all_n), fun h => absurd rfl h, lookup_all (l := (MX0_ofTwo (gg G)).cal) (P := fun i e => vCal l G RX0 i e) (all_c (⟨cX0_ofFour, 8, some (.object "Rangecard$Range"), fun y hy => by subst hy; exact ⟨by decide, ⟨_, wk_149, okX0_ofFour hl, Or.inl ⟨Nat.ne_of_beq_eq_false rfl, rfl⟩⟩, wk_84, ⟨(by decide : yX0_ofFour.cls ≠ "java/lang/invoke/MethodHandle"), (by decide : yX0_ofFour.cls ≠ "java/lang/invoke/VarHandle")⟩, ⟨(by decide +kernel : (parseMethodDescriptor yX0_ofFour.desc).map (fun d => d.parameters.length) = some 4), wk_195, wk_148⟩⟩⟩) (all_n)), lookup_all (l := (MX0_ofTwo (gg G)).stt) (P := fun i e => vStt G RX0 i e) (all_n), lookup_all (l := (MX0_ofTwo (gg G)).cst) (P := fun i e => vCst RX0 i e) (all_n), fun h => absurd rfl h, rfl, all_n⟩
theorem okX0_ofTwo {l : Launch} (hl : l.stackTraces = false) {G : GT} : ∀ (args : List Value) (w : Hw) (S : Ot → Hw → Prop), spOf (MX0_ofTwo (gg G)) args w S → CX l G yX0_ofTwo (.code yX0_ofTwo cX0_ofTwo 4 (some (.object "Rangecard$Range"))) 3 1 4 args w S := CX_sp (M := MX0_ofTwo (gg G)) (y := yX0_ofTwo) hl (by decide) rfl (vMX0_ofTwo hl G) (fun h => by cases h) rfl
/-! Rangecard$Range.endAt(I)J -/
theorem dX0_endAt_0 : decode cX0_endAt 0 = .ok (.iload_n 1, 1) := by decide +kernel
theorem dX0_endAt_1 : decode cX0_endAt 1 = .ok (.tableswitch 42 0 2 #[27, 32, 37], 27) := by decide +kernel
theorem dX0_endAt_28 : decode cX0_endAt 28 = .ok (.aload_n 0, 1) := by decide +kernel
theorem dX0_endAt_29 : decode cX0_endAt 29 = .ok (.getfield 9, 3) := by decide +kernel
theorem dX0_endAt_32 : decode cX0_endAt 32 = .ok (.lreturn, 1) := by decide +kernel
theorem dX0_endAt_33 : decode cX0_endAt 33 = .ok (.aload_n 0, 1) := by decide +kernel
theorem dX0_endAt_34 : decode cX0_endAt 34 = .ok (.getfield 15, 3) := by decide +kernel
theorem dX0_endAt_37 : decode cX0_endAt 37 = .ok (.lreturn, 1) := by decide +kernel
theorem dX0_endAt_38 : decode cX0_endAt 38 = .ok (.aload_n 0, 1) := by decide +kernel
theorem dX0_endAt_39 : decode cX0_endAt 39 = .ok (.getfield 18, 3) := by decide +kernel
theorem dX0_endAt_42 : decode cX0_endAt 42 = .ok (.lreturn, 1) := by decide +kernel
theorem dX0_endAt_43 : decode cX0_endAt 43 = .ok (.aload_n 0, 1) := by decide +kernel
theorem dX0_endAt_44 : decode cX0_endAt 44 = .ok (.getfield 21, 3) := by decide +kernel
theorem dX0_endAt_47 : decode cX0_endAt 47 = .ok (.lreturn, 1) := by decide +kernel
def MX0_endAt (g : RO) : MT := ((RX0, cX0_endAt, 2, 1, 0, 0, false, some .long), [(9, 4, 0), (15, 4, 1), (18, 4, 2), (21, 4, 3)], [], [], [], [], 0, [], [], [], 0, [], [], g)
section
variable {g : RO} {Q : Ot → Hw → Prop} {st : List Value} {w : Hw} {k n p q : Nat} {a b : Int32} {x y : Int64} {u v : Value} {l0 l1 : Option Value}
theorem eX0_endAt_0 : WP (MX0_endAt g) Q (0, [l0, some (.int a)], st, w, k, n) = WP (MX0_endAt g) Q (1, [l0, some (.int a)], .int a :: st, w, k, n) := Eq.trans (WP_at (M := (MX0_endAt g)) rfl dX0_endAt_0 (Or.inr rfl)) rfl
theorem eX0_endAt_1_0 : WP (MX0_endAt g) Q (1, [l0, l1], .int 0 :: st, w, k, n) = WP (MX0_endAt g) Q (28, [l0, l1], st, w, k, n) := tsw_e (off := 27) rfl dX0_endAt_1 (by decide) (by decide) (by decide) (by decide) (by decide)
theorem eX0_endAt_1_1 : WP (MX0_endAt g) Q (1, [l0, l1], .int 1 :: st, w, k, n) = WP (MX0_endAt g) Q (33, [l0, l1], st, w, k, n) := tsw_e (off := 32) rfl dX0_endAt_1 (by decide) (by decide) (by decide) (by decide) (by decide)
theorem eX0_endAt_1_2 : WP (MX0_endAt g) Q (1, [l0, l1], .int 2 :: st, w, k, n) = WP (MX0_endAt g) Q (38, [l0, l1], st, w, k, n) := tsw_e (off := 37) rfl dX0_endAt_1 (by decide) (by decide) (by decide) (by decide) (by decide)
theorem eX0_endAt_1_d3 : WP (MX0_endAt g) Q (1, [l0, l1], .int 3 :: st, w, k, n) = WP (MX0_endAt g) Q (43, [l0, l1], st, w, k, n) := tswd_e rfl dX0_endAt_1 (by decide) (by decide)
theorem eX0_endAt_1_d4 : WP (MX0_endAt g) Q (1, [l0, l1], .int 4 :: st, w, k, n) = WP (MX0_endAt g) Q (43, [l0, l1], st, w, k, n) := tswd_e rfl dX0_endAt_1 (by decide) (by decide)
theorem eX0_endAt_1_d (h : a.toInt < 0 ∨ 2 < a.toInt) : WP (MX0_endAt g) Q (1, [l0, l1], .int a :: st, w, k, n) = WP (MX0_endAt g) Q (43, [l0, l1], st, w, k, n) := tswd_e rfl dX0_endAt_1 h (by decide)
theorem eX0_endAt_28 : WP (MX0_endAt g) Q (28, [some (.ref p), l1], st, w, k, n) = WP (MX0_endAt g) Q (29, [some (.ref p), l1], .ref p :: st, w, k, n) := Eq.trans (WP_at (M := (MX0_endAt g)) rfl dX0_endAt_28 (Or.inr rfl)) rfl
theorem eX0_endAt_28N : WP (MX0_endAt g) Q (28, [some .null, l1], st, w, k, n) = WP (MX0_endAt g) Q (29, [some .null, l1], .null :: st, w, k, n) := Eq.trans (WP_at (M := (MX0_endAt g)) rfl dX0_endAt_28 (Or.inr rfl)) rfl
theorem eX0_endAt_29 : WP (MX0_endAt g) Q (29, [l0, l1], .ref p :: st, w, k, n) = go (rd g w p) 4 fun fs => ∃ v, fs[0]? = some v ∧ WP (MX0_endAt g) Q (32, [l0, l1], v :: st, w, k, n) := get_e rfl dX0_endAt_29 rfl
theorem eX0_endAt_32 : WP (MX0_endAt g) Q (32, [l0, l1], [.long x], w, k, n) = (k ≤ 0 ∧ n ≤ 0 ∧ Q (.inl (some (.long x))) w) := lret_e rfl dX0_endAt_32 rfl
theorem eX0_endAt_33 : WP (MX0_endAt g) Q (33, [some (.ref p), l1], st, w, k, n) = WP (MX0_endAt g) Q (34, [some (.ref p), l1], .ref p :: st, w, k, n) := Eq.trans (WP_at (M := (MX0_endAt g)) rfl dX0_endAt_33 (Or.inr rfl)) rfl
theorem eX0_endAt_33N : WP (MX0_endAt g) Q (33, [some .null, l1], st, w, k, n) = WP (MX0_endAt g) Q (34, [some .null, l1], .null :: st, w, k, n) := Eq.trans (WP_at (M := (MX0_endAt g)) rfl dX0_endAt_33 (Or.inr rfl)) rfl
theorem eX0_endAt_34 : WP (MX0_endAt g) Q (34, [l0, l1], .ref p :: st, w, k, n) = go (rd g w p) 4 fun fs => ∃ v, fs[1]? = some v ∧ WP (MX0_endAt g) Q (37, [l0, l1], v :: st, w, k, n) := get_e rfl dX0_endAt_34 rfl
theorem eX0_endAt_37 : WP (MX0_endAt g) Q (37, [l0, l1], [.long x], w, k, n) = (k ≤ 0 ∧ n ≤ 0 ∧ Q (.inl (some (.long x))) w) := lret_e rfl dX0_endAt_37 rfl
theorem eX0_endAt_38 : WP (MX0_endAt g) Q (38, [some (.ref p), l1], st, w, k, n) = WP (MX0_endAt g) Q (39, [some (.ref p), l1], .ref p :: st, w, k, n) := Eq.trans (WP_at (M := (MX0_endAt g)) rfl dX0_endAt_38 (Or.inr rfl)) rfl
theorem eX0_endAt_38N : WP (MX0_endAt g) Q (38, [some .null, l1], st, w, k, n) = WP (MX0_endAt g) Q (39, [some .null, l1], .null :: st, w, k, n) := Eq.trans (WP_at (M := (MX0_endAt g)) rfl dX0_endAt_38 (Or.inr rfl)) rfl
theorem eX0_endAt_39 : WP (MX0_endAt g) Q (39, [l0, l1], .ref p :: st, w, k, n) = go (rd g w p) 4 fun fs => ∃ v, fs[2]? = some v ∧ WP (MX0_endAt g) Q (42, [l0, l1], v :: st, w, k, n) := get_e rfl dX0_endAt_39 rfl
theorem eX0_endAt_42 : WP (MX0_endAt g) Q (42, [l0, l1], [.long x], w, k, n) = (k ≤ 0 ∧ n ≤ 0 ∧ Q (.inl (some (.long x))) w) := lret_e rfl dX0_endAt_42 rfl
theorem eX0_endAt_43 : WP (MX0_endAt g) Q (43, [some (.ref p), l1], st, w, k, n) = WP (MX0_endAt g) Q (44, [some (.ref p), l1], .ref p :: st, w, k, n) := Eq.trans (WP_at (M := (MX0_endAt g)) rfl dX0_endAt_43 (Or.inr rfl)) rfl
theorem eX0_endAt_43N : WP (MX0_endAt g) Q (43, [some .null, l1], st, w, k, n) = WP (MX0_endAt g) Q (44, [some .null, l1], .null :: st, w, k, n) := Eq.trans (WP_at (M := (MX0_endAt g)) rfl dX0_endAt_43 (Or.inr rfl)) rfl
theorem eX0_endAt_44 : WP (MX0_endAt g) Q (44, [l0, l1], .ref p :: st, w, k, n) = go (rd g w p) 4 fun fs => ∃ v, fs[3]? = some v ∧ WP (MX0_endAt g) Q (47, [l0, l1], v :: st, w, k, n) := get_e rfl dX0_endAt_44 rfl
theorem eX0_endAt_47 : WP (MX0_endAt g) Q (47, [l0, l1], [.long x], w, k, n) = (k ≤ 0 ∧ n ≤ 0 ∧ Q (.inl (some (.long x))) w) := lret_e rfl dX0_endAt_47 rfl
end
theorem vMX0_endAt {l : Launch} (hl : l.stackTraces = false) (G : GT) : vM l G (MX0_endAt (gg G)) := ⟨fun i c j h => lookup_all (l := (MX0_endAt (gg G)).fld) (P := fun i e => vFld RX0 i e.1 e.2) (all_c (vF_RX0_9) (all_c (vF_RX0_15) (all_c (vF_RX0_18) (all_c (vF_RX0_21) (all_n))))) i (c, j) h, fun i c fs h => lookup_all (l := (MX0_endAt (gg G)).new) (P := fun i e => vNew RX0 i e.1 e.2) (all_n) i (c, fs) h, lookup_all (l := (MX0_endAt (gg G)).anew) (P := fun i e => vANew RX0 i e) (all_n), lookup_all (l := (MX0_endAt (gg G)).lng) (P := fun i e => Jvm.Cond.constantLong RX0 i e ∈ WS) (all_n), lookup_all (l := (MX0_endAt (gg G)).thr) (P := fun i e => vThr RX0 cX0_endAt i e) (all_n), fun h => absurd rfl h, lookup_all (l := (MX0_endAt (gg G)).cal) (P := fun i e => vCal l G RX0 i e) (all_n), lookup_all (l := (MX0_endAt (gg G)).stt) (P := fun i e => vStt G RX0 i e) (all_n), lookup_all (l := (MX0_endAt (gg G)).cst) (P := fun i e => vCst RX0 i e) (all_n), fun h => absurd rfl h, rfl, all_n⟩
theorem okX0_endAt {l : Launch} (hl : l.stackTraces = false) {G : GT} : ∀ (args : List Value) (w : Hw) (S : Ot → Hw → Prop), spOf (MX0_endAt (gg G)) args w S → CX l G yX0_endAt (.code yX0_endAt cX0_endAt 2 (some .long)) 1 0 0 args w S := CX_sp (M := MX0_endAt (gg G)) (y := yX0_endAt) hl (by decide) rfl (vMX0_endAt hl G) (fun h => by cases h) rfl
/-! Rangecard$Range.holds(J)Z -/
theorem dX0_holds_0 : decode cX0_holds 0 = .ok (.aload_n 0, 1) := by decide +kernel
theorem dX0_holds_1 : decode cX0_holds 1 = .ok (.getfield 9, 3) := by decide +kernel
theorem dX0_holds_4 : decode cX0_holds 4 = .ok (.lload_n 1, 1) := by decide +kernel
theorem dX0_holds_5 : decode cX0_holds 5 = .ok (.lcmp, 1) := by decide +kernel
theorem dX0_holds_6 : decode cX0_holds 6 = .ok (.ifCond .gt 16, 3) := by decide +kernel
theorem dX0_holds_9 : decode cX0_holds 9 = .ok (.lload_n 1, 1) := by decide +kernel
theorem dX0_holds_10 : decode cX0_holds 10 = .ok (.aload_n 0, 1) := by decide +kernel
theorem dX0_holds_11 : decode cX0_holds 11 = .ok (.getfield 21, 3) := by decide +kernel
theorem dX0_holds_14 : decode cX0_holds 14 = .ok (.lcmp, 1) := by decide +kernel
theorem dX0_holds_15 : decode cX0_holds 15 = .ok (.ifCond .gt 7, 3) := by decide +kernel
theorem dX0_holds_18 : decode cX0_holds 18 = .ok (.iconst 1, 1) := by decide +kernel
theorem dX0_holds_19 : decode cX0_holds 19 = .ok (.goto 4, 3) := by decide +kernel
theorem dX0_holds_22 : decode cX0_holds 22 = .ok (.iconst 0, 1) := by decide +kernel
theorem dX0_holds_23 : decode cX0_holds 23 = .ok (.ireturn, 1) := by decide +kernel
def MX0_holds (g : RO) : MT := ((RX0, cX0_holds, 3, 1, 0, 0, false, some .boolean), [(9, 4, 0), (21, 4, 3)], [], [], [], [], 0, [], [], [], 0, [], [], g)
section
variable {g : RO} {Q : Ot → Hw → Prop} {st : List Value} {w : Hw} {k n p q : Nat} {a b : Int32} {x y : Int64} {u v : Value} {l0 l1 l2 : Option Value}
theorem eX0_holds_0 : WP (MX0_holds g) Q (0, [some (.ref p), l1, l2], st, w, k, n) = WP (MX0_holds g) Q (1, [some (.ref p), l1, l2], .ref p :: st, w, k, n) := Eq.trans (WP_at (M := (MX0_holds g)) rfl dX0_holds_0 (Or.inr rfl)) rfl
theorem eX0_holds_0N : WP (MX0_holds g) Q (0, [some .null, l1, l2], st, w, k, n) = WP (MX0_holds g) Q (1, [some .null, l1, l2], .null :: st, w, k, n) := Eq.trans (WP_at (M := (MX0_holds g)) rfl dX0_holds_0 (Or.inr rfl)) rfl
theorem eX0_holds_1 : WP (MX0_holds g) Q (1, [l0, l1, l2], .ref p :: st, w, k, n) = go (rd g w p) 4 fun fs => ∃ v, fs[0]? = some v ∧ WP (MX0_holds g) Q (4, [l0, l1, l2], v :: st, w, k, n) := get_e rfl dX0_holds_1 rfl
theorem eX0_holds_4 : WP (MX0_holds g) Q (4, [l0, some (.long x), l2], st, w, k, n) = WP (MX0_holds g) Q (5, [l0, some (.long x), l2], .long x :: st, w, k, n) := Eq.trans (WP_at (M := (MX0_holds g)) rfl dX0_holds_4 (Or.inr rfl)) rfl
theorem eX0_holds_5 : WP (MX0_holds g) Q (5, [l0, l1, l2], .long y :: .long x :: st, w, k, n) = WP (MX0_holds g) Q (6, [l0, l1, l2], .int (lg_cmp x y) :: st, w, k, n) := Eq.trans (WP_at (M := (MX0_holds g)) rfl dX0_holds_5 (Or.inr rfl)) rfl
theorem eX0_holds_6 : WP (MX0_holds g) Q (6, [l0, l1, l2], .int a :: st, w, k, n) = if 0 < a then WP (MX0_holds g) Q (22, [l0, l1, l2], st, w, k, n) else WP (MX0_holds g) Q (9, [l0, l1, l2], st, w, k, n) := ifc_e (0 < a) rfl dX0_holds_6 rfl (by decide)
theorem eX0_holds_9 : WP (MX0_holds g) Q (9, [l0, some (.long x), l2], st, w, k, n) = WP (MX0_holds g) Q (10, [l0, some (.long x), l2], .long x :: st, w, k, n) := Eq.trans (WP_at (M := (MX0_holds g)) rfl dX0_holds_9 (Or.inr rfl)) rfl
theorem eX0_holds_10 : WP (MX0_holds g) Q (10, [some (.ref p), l1, l2], st, w, k, n) = WP (MX0_holds g) Q (11, [some (.ref p), l1, l2], .ref p :: st, w, k, n) := Eq.trans (WP_at (M := (MX0_holds g)) rfl dX0_holds_10 (Or.inr rfl)) rfl
theorem eX0_holds_10N : WP (MX0_holds g) Q (10, [some .null, l1, l2], st, w, k, n) = WP (MX0_holds g) Q (11, [some .null, l1, l2], .null :: st, w, k, n) := Eq.trans (WP_at (M := (MX0_holds g)) rfl dX0_holds_10 (Or.inr rfl)) rfl
theorem eX0_holds_11 : WP (MX0_holds g) Q (11, [l0, l1, l2], .ref p :: st, w, k, n) = go (rd g w p) 4 fun fs => ∃ v, fs[3]? = some v ∧ WP (MX0_holds g) Q (14, [l0, l1, l2], v :: st, w, k, n) := get_e rfl dX0_holds_11 rfl
theorem eX0_holds_14 : WP (MX0_holds g) Q (14, [l0, l1, l2], .long y :: .long x :: st, w, k, n) = WP (MX0_holds g) Q (15, [l0, l1, l2], .int (lg_cmp x y) :: st, w, k, n) := Eq.trans (WP_at (M := (MX0_holds g)) rfl dX0_holds_14 (Or.inr rfl)) rfl
theorem eX0_holds_15 : WP (MX0_holds g) Q (15, [l0, l1, l2], .int a :: st, w, k, n) = if 0 < a then WP (MX0_holds g) Q (22, [l0, l1, l2], st, w, k, n) else WP (MX0_holds g) Q (18, [l0, l1, l2], st, w, k, n) := ifc_e (0 < a) rfl dX0_holds_15 rfl (by decide)
theorem eX0_holds_18 : WP (MX0_holds g) Q (18, [l0, l1, l2], st, w, k, n) = WP (MX0_holds g) Q (19, [l0, l1, l2], .int 1 :: st, w, k, n) := iconst_e rfl dX0_holds_18 (by decide)
theorem eX0_holds_19 : WP (MX0_holds g) Q (19, [l0, l1, l2], st, w, k, n) = WP (MX0_holds g) Q (23, [l0, l1, l2], st, w, k, n) := goto_e rfl dX0_holds_19 (by decide)
theorem eX0_holds_22 : WP (MX0_holds g) Q (22, [l0, l1, l2], st, w, k, n) = WP (MX0_holds g) Q (23, [l0, l1, l2], .int 0 :: st, w, k, n) := iconst_e rfl dX0_holds_22 (by decide)
theorem eX0_holds_23 : WP (MX0_holds g) Q (23, [l0, l1, l2], [.int a], w, k, n) = (narrow (.boolean) (.int a) = .int a ∧ k ≤ 0 ∧ n ≤ 0 ∧ Q (.inl (some (.int a))) w) := iret_e rfl dX0_holds_23 rfl
end
theorem vMX0_holds {l : Launch} (hl : l.stackTraces = false) (G : GT) : vM l G (MX0_holds (gg G)) := ⟨fun i c j h => lookup_all (l := (MX0_holds (gg G)).fld) (P := fun i e => vFld RX0 i e.1 e.2) (all_c (vF_RX0_9) (all_c (vF_RX0_21) (all_n))) i (c, j) h, fun i c fs h => lookup_all (l := (MX0_holds (gg G)).new) (P := fun i e => vNew RX0 i e.1 e.2) (all_n) i (c, fs) h, lookup_all (l := (MX0_holds (gg G)).anew) (P := fun i e => vANew RX0 i e) (all_n), lookup_all (l := (MX0_holds (gg G)).lng) (P := fun i e => Jvm.Cond.constantLong RX0 i e ∈ WS) (all_n), lookup_all (l := (MX0_holds (gg G)).thr) (P := fun i e => vThr RX0 cX0_holds i e) (all_n), fun h => absurd rfl h, lookup_all (l := (MX0_holds (gg G)).cal) (P := fun i e => vCal l G RX0 i e) (all_n), lookup_all (l := (MX0_holds (gg G)).stt) (P := fun i e => vStt G RX0 i e) (all_n), lookup_all (l := (MX0_holds (gg G)).cst) (P := fun i e => vCst RX0 i e) (all_n), fun h => absurd rfl h, rfl, all_n⟩
theorem okX0_holds {l : Launch} (hl : l.stackTraces = false) {G : GT} : ∀ (args : List Value) (w : Hw) (S : Ot → Hw → Prop), spOf (MX0_holds (gg G)) args w S → CX l G yX0_holds (.code yX0_holds cX0_holds 3 (some .boolean)) 1 0 0 args w S := CX_sp (M := MX0_holds (gg G)) (y := yX0_holds) hl (by decide) rfl (vMX0_holds hl G) (fun h => by cases h) rfl
/-! Rangecard$Range.fitsSmall()Z -/
theorem dX0_fitsSmall_0 : decode cX0_fitsSmall 0 = .ok (.aload_n 0, 1) := by decide +kernel
theorem dX0_fitsSmall_1 : decode cX0_fitsSmall 1 = .ok (.getfield 9, 3) := by decide +kernel
theorem dX0_fitsSmall_4 : decode cX0_fitsSmall 4 = .ok (.ldc2_w 46, 3) := by decide +kernel
theorem dX0_fitsSmall_7 : decode cX0_fitsSmall 7 = .ok (.lcmp, 1) := by decide +kernel
theorem dX0_fitsSmall_8 : decode cX0_fitsSmall 8 = .ok (.ifCond .lt 18, 3) := by decide +kernel
theorem dX0_fitsSmall_11 : decode cX0_fitsSmall 11 = .ok (.aload_n 0, 1) := by decide +kernel
theorem dX0_fitsSmall_12 : decode cX0_fitsSmall 12 = .ok (.getfield 21, 3) := by decide +kernel
theorem dX0_fitsSmall_15 : decode cX0_fitsSmall 15 = .ok (.ldc2_w 48, 3) := by decide +kernel
theorem dX0_fitsSmall_18 : decode cX0_fitsSmall 18 = .ok (.lcmp, 1) := by decide +kernel
theorem dX0_fitsSmall_19 : decode cX0_fitsSmall 19 = .ok (.ifCond .gt 7, 3) := by decide +kernel
theorem dX0_fitsSmall_22 : decode cX0_fitsSmall 22 = .ok (.iconst 1, 1) := by decide +kernel
theorem dX0_fitsSmall_23 : decode cX0_fitsSmall 23 = .ok (.goto 4, 3) := by decide +kernel
theorem dX0_fitsSmall_26 : decode cX0_fitsSmall 26 = .ok (.iconst 0, 1) := by decide +kernel
theorem dX0_fitsSmall_27 : decode cX0_fitsSmall 27 = .ok (.ireturn, 1) := by decide +kernel
def MX0_fitsSmall (g : RO) : MT := ((RX0, cX0_fitsSmall, 1, 1, 0, 0, false, some .boolean), [(9, 4, 0), (21, 4, 3)], [], [], [(46, -2147483648), (48, 2147483647)], [], 0, [], [], [], 0, [], [], g)
section
variable {g : RO} {Q : Ot → Hw → Prop} {st : List Value} {w : Hw} {k n p q : Nat} {a b : Int32} {x y : Int64} {u v : Value} {l0 : Option Value}
theorem eX0_fitsSmall_0 : WP (MX0_fitsSmall g) Q (0, [some (.ref p)], st, w, k, n) = WP (MX0_fitsSmall g) Q (1, [some (.ref p)], .ref p :: st, w, k, n) := Eq.trans (WP_at (M := (MX0_fitsSmall g)) rfl dX0_fitsSmall_0 (Or.inr rfl)) rfl
theorem eX0_fitsSmall_0N : WP (MX0_fitsSmall g) Q (0, [some .null], st, w, k, n) = WP (MX0_fitsSmall g) Q (1, [some .null], .null :: st, w, k, n) := Eq.trans (WP_at (M := (MX0_fitsSmall g)) rfl dX0_fitsSmall_0 (Or.inr rfl)) rfl
theorem eX0_fitsSmall_1 : WP (MX0_fitsSmall g) Q (1, [l0], .ref p :: st, w, k, n) = go (rd g w p) 4 fun fs => ∃ v, fs[0]? = some v ∧ WP (MX0_fitsSmall g) Q (4, [l0], v :: st, w, k, n) := get_e rfl dX0_fitsSmall_1 rfl
theorem eX0_fitsSmall_4 : WP (MX0_fitsSmall g) Q (4, [l0], st, w, k, n) = WP (MX0_fitsSmall g) Q (7, [l0], .long (-2147483648) :: st, w, k, n) := ldc2_e rfl dX0_fitsSmall_4 rfl
theorem eX0_fitsSmall_7 : WP (MX0_fitsSmall g) Q (7, [l0], .long y :: .long x :: st, w, k, n) = WP (MX0_fitsSmall g) Q (8, [l0], .int (lg_cmp x y) :: st, w, k, n) := Eq.trans (WP_at (M := (MX0_fitsSmall g)) rfl dX0_fitsSmall_7 (Or.inr rfl)) rfl
theorem eX0_fitsSmall_8 : WP (MX0_fitsSmall g) Q (8, [l0], .int a :: st, w, k, n) = if a < 0 then WP (MX0_fitsSmall g) Q (26, [l0], st, w, k, n) else WP (MX0_fitsSmall g) Q (11, [l0], st, w, k, n) := ifc_e (a < 0) rfl dX0_fitsSmall_8 rfl (by decide)
theorem eX0_fitsSmall_11 : WP (MX0_fitsSmall g) Q (11, [some (.ref p)], st, w, k, n) = WP (MX0_fitsSmall g) Q (12, [some (.ref p)], .ref p :: st, w, k, n) := Eq.trans (WP_at (M := (MX0_fitsSmall g)) rfl dX0_fitsSmall_11 (Or.inr rfl)) rfl
theorem eX0_fitsSmall_11N : WP (MX0_fitsSmall g) Q (11, [some .null], st, w, k, n) = WP (MX0_fitsSmall g) Q (12, [some .null], .null :: st, w, k, n) := Eq.trans (WP_at (M := (MX0_fitsSmall g)) rfl dX0_fitsSmall_11 (Or.inr rfl)) rfl
theorem eX0_fitsSmall_12 : WP (MX0_fitsSmall g) Q (12, [l0], .ref p :: st, w, k, n) = go (rd g w p) 4 fun fs => ∃ v, fs[3]? = some v ∧ WP (MX0_fitsSmall g) Q (15, [l0], v :: st, w, k, n) := get_e rfl dX0_fitsSmall_12 rfl
theorem eX0_fitsSmall_15 : WP (MX0_fitsSmall g) Q (15, [l0], st, w, k, n) = WP (MX0_fitsSmall g) Q (18, [l0], .long 2147483647 :: st, w, k, n) := ldc2_e rfl dX0_fitsSmall_15 rfl
theorem eX0_fitsSmall_18 : WP (MX0_fitsSmall g) Q (18, [l0], .long y :: .long x :: st, w, k, n) = WP (MX0_fitsSmall g) Q (19, [l0], .int (lg_cmp x y) :: st, w, k, n) := Eq.trans (WP_at (M := (MX0_fitsSmall g)) rfl dX0_fitsSmall_18 (Or.inr rfl)) rfl
theorem eX0_fitsSmall_19 : WP (MX0_fitsSmall g) Q (19, [l0], .int a :: st, w, k, n) = if 0 < a then WP (MX0_fitsSmall g) Q (26, [l0], st, w, k, n) else WP (MX0_fitsSmall g) Q (22, [l0], st, w, k, n) := ifc_e (0 < a) rfl dX0_fitsSmall_19 rfl (by decide)
theorem eX0_fitsSmall_22 : WP (MX0_fitsSmall g) Q (22, [l0], st, w, k, n) = WP (MX0_fitsSmall g) Q (23, [l0], .int 1 :: st, w, k, n) := iconst_e rfl dX0_fitsSmall_22 (by decide)
theorem eX0_fitsSmall_23 : WP (MX0_fitsSmall g) Q (23, [l0], st, w, k, n) = WP (MX0_fitsSmall g) Q (27, [l0], st, w, k, n) := goto_e rfl dX0_fitsSmall_23 (by decide)
theorem eX0_fitsSmall_26 : WP (MX0_fitsSmall g) Q (26, [l0], st, w, k, n) = WP (MX0_fitsSmall g) Q (27, [l0], .int 0 :: st, w, k, n) := iconst_e rfl dX0_fitsSmall_26 (by decide)
theorem eX0_fitsSmall_27 : WP (MX0_fitsSmall g) Q (27, [l0], [.int a], w, k, n) = (narrow (.boolean) (.int a) = .int a ∧ k ≤ 0 ∧ n ≤ 0 ∧ Q (.inl (some (.int a))) w) := iret_e rfl dX0_fitsSmall_27 rfl
end
theorem wk_220 : (.constantLong RX0 46 (-2147483648) : Jvm.Cond) ∈ WS := WS_at 220 (by decide +kernel) rfl
theorem wk_221 : (.constantLong RX0 48 (2147483647) : Jvm.Cond) ∈ WS := WS_at 221 (by decide +kernel) rfl
theorem vMX0_fitsSmall {l : Launch} (hl : l.stackTraces = false) (G : GT) : vM l G (MX0_fitsSmall (gg G)) := ⟨fun i c j h => lookup_all (l := (MX0_fitsSmall (gg G)).fld) (P := fun i e => vFld RX0 i e.1 e.2) (all_c (vF_RX0_9) (all_c (vF_RX0_21) (all_n))) i (c, j) h, fun i c fs h => lookup_all (l := (MX0_fitsSmall (gg G)).new) (P := fun i e => vNew RX0 i e.1 e.2) (all_n) i (c, fs) h, lookup_all (l := (MX0_fitsSmall (gg G)).anew) (P := fun i e => vANew RX0 i e) (all_n), lookup_all (l := (MX0_fitsSmall (gg G)).lng) (P := fun i e => Jvm.Cond.constantLong RX0 i e ∈ WS) (all_c (wk_220) (all_c (wk_221) (all_n))), lookup_all (l := (MX0_fitsSmall (gg G)).thr) (P := fun i e => vThr RX0 cX0_fitsSmall i e) (all_n), fun h => absurd rfl h, lookup_all (l := (MX0_fitsSmall (gg G)).cal) (P := fun i e => vCal l G RX0 i e) (all_n), lookup_all (l := (MX0_fitsSmall (gg G)).stt) (P := fun i e => vStt G RX0 i e) (all_n), lookup_all (l := (MX0_fitsSmall (gg G)).cst) (P := fun i e => vCst RX0 i e) (all_n), fun h => absurd rfl h, rfl, all_n⟩
theorem okX0_fitsSmall {l : Launch} (hl : l.stackTraces = false) {G : GT} : ∀ (args : List Value) (w : Hw) (S : Ot → Hw → Prop), spOf (MX0_fitsSmall (gg G)) args w S → CX l G yX0_fitsSmall (.code yX0_fitsSmall cX0_fitsSmall 1 (some .boolean)) 1 0 0 args w S := CX_sp (M := MX0_fitsSmall (gg G)) (y := yX0_fitsSmall) hl (by decide) rfl (vMX0_fitsSmall hl G) (fun h => by cases h) rfl
/-! Rangecard$Range.holdsAsSmall(J)Z -/
theorem dX0_holdsAsSmall_0 : decode cX0_holdsAsSmall 0 = .ok (.aload_n 0, 1) := by decide +kernel
theorem dX0_holdsAsSmall_1 : decode cX0_holdsAsSmall 1 = .ok (.invokevirtual 35, 3) := by decide +kernel
theorem dX0_holdsAsSmall_4 : decode cX0_holdsAsSmall 4 = .ok (.ifCond .eq 15, 3) := by decide +kernel
theorem dX0_holdsAsSmall_7 : decode cX0_holdsAsSmall 7 = .ok (.aload_n 0, 1) := by decide +kernel
theorem dX0_holdsAsSmall_8 : decode cX0_holdsAsSmall 8 = .ok (.lload_n 1, 1) := by decide +kernel
theorem dX0_holdsAsSmall_9 : decode cX0_holdsAsSmall 9 = .ok (.invokevirtual 39, 3) := by decide +kernel
theorem dX0_holdsAsSmall_12 : decode cX0_holdsAsSmall 12 = .ok (.ifCond .eq 7, 3) := by decide +kernel
theorem dX0_holdsAsSmall_15 : decode cX0_holdsAsSmall 15 = .ok (.iconst 1, 1) := by decide +kernel
theorem dX0_holdsAsSmall_16 : decode cX0_holdsAsSmall 16 = .ok (.goto 4, 3) := by decide +kernel
theorem dX0_holdsAsSmall_19 : decode cX0_holdsAsSmall 19 = .ok (.iconst 0, 1) := by decide +kernel
theorem dX0_holdsAsSmall_20 : decode cX0_holdsAsSmall 20 = .ok (.ireturn, 1) := by decide +kernel
def MX0_holdsAsSmall (g : RO) : MT := ((RX0, cX0_holdsAsSmall, 3, 2, 0, 0, false, some .boolean), [], [], [], [], [], 0, [(35, 2, 1, 4, 1, (fun _ _ => 0), (fun _ _ => 0), yX0_fitsSmall, spOf (MX0_fitsSmall g)), (39, 2, 2, 4, 1, (fun _ _ => 0), (fun _ _ => 0), yX0_holds, spOf (MX0_holds g))], [], [], 0, [], [], g)
section
variable {g : RO} {Q : Ot → Hw → Prop} {st : List Value} {w : Hw} {k n p q : Nat} {a b : Int32} {x y : Int64} {u v : Value} {l0 l1 l2 : Option Value}
theorem eX0_holdsAsSmall_0 : WP (MX0_holdsAsSmall g) Q (0, [some (.ref p), l1, l2], st, w, k, n) = WP (MX0_holdsAsSmall g) Q (1, [some (.ref p), l1, l2], .ref p :: st, w, k, n) := Eq.trans (WP_at (M := (MX0_holdsAsSmall g)) rfl dX0_holdsAsSmall_0 (Or.inr rfl)) rfl
theorem eX0_holdsAsSmall_0N : WP (MX0_holdsAsSmall g) Q (0, [some .null, l1, l2], st, w, k, n) = WP (MX0_holdsAsSmall g) Q (1, [some .null, l1, l2], .null :: st, w, k, n) := Eq.trans (WP_at (M := (MX0_holdsAsSmall g)) rfl dX0_holdsAsSmall_0 (Or.inr rfl)) rfl
theorem eX0_holdsAsSmall_1  : WP (MX0_holdsAsSmall g) Q (1, [l0, l1, l2], .ref p :: st, w, k, n) = (go (rd g w p) 4 (fun _ => True) ∧ wt st ≤ 8 ∧ k + 0 ≤ 0 ∧ n + 0 ≤ 0 ∧ WP (MX0_fitsSmall g) (kx (fun v w' => WP (MX0_holdsAsSmall g) Q (4, [l0, l1, l2], v.toList ++ st, w', k + 0, n + 0)) (fun E w' => Q (.inr E) w')) (0, [some (.ref p)], [], w, 0, 0)) := csV (M := (MX0_holdsAsSmall g)) (mc := (fun _ _ => 0)) (ms := (fun _ _ => 0)) (As := []) (rest := st) (MX0_fitsSmall g) rfl rfl dX0_holdsAsSmall_1 (by exact fun h => nomatch (show (none : Option Nat) = some 11 from h)) (by exact fun h => nomatch (show (none : Option Nat) = some 15 from h)) rfl rfl (by decide) (Nat.le_of_ble_eq_true rfl) (Nat.le_of_ble_eq_true rfl) rfl
theorem eX0_holdsAsSmall_4 : WP (MX0_holdsAsSmall g) Q (4, [l0, l1, l2], .int a :: st, w, k, n) = if a = 0 then WP (MX0_holdsAsSmall g) Q (19, [l0, l1, l2], st, w, k, n) else WP (MX0_holdsAsSmall g) Q (7, [l0, l1, l2], st, w, k, n) := ifc_e (a = 0) rfl dX0_holdsAsSmall_4 rfl (by decide)
theorem eX0_holdsAsSmall_7 : WP (MX0_holdsAsSmall g) Q (7, [some (.ref p), l1, l2], st, w, k, n) = WP (MX0_holdsAsSmall g) Q (8, [some (.ref p), l1, l2], .ref p :: st, w, k, n) := Eq.trans (WP_at (M := (MX0_holdsAsSmall g)) rfl dX0_holdsAsSmall_7 (Or.inr rfl)) rfl
theorem eX0_holdsAsSmall_7N : WP (MX0_holdsAsSmall g) Q (7, [some .null, l1, l2], st, w, k, n) = WP (MX0_holdsAsSmall g) Q (8, [some .null, l1, l2], .null :: st, w, k, n) := Eq.trans (WP_at (M := (MX0_holdsAsSmall g)) rfl dX0_holdsAsSmall_7 (Or.inr rfl)) rfl
theorem eX0_holdsAsSmall_8 : WP (MX0_holdsAsSmall g) Q (8, [l0, some (.long x), l2], st, w, k, n) = WP (MX0_holdsAsSmall g) Q (9, [l0, some (.long x), l2], .long x :: st, w, k, n) := Eq.trans (WP_at (M := (MX0_holdsAsSmall g)) rfl dX0_holdsAsSmall_8 (Or.inr rfl)) rfl
theorem eX0_holdsAsSmall_9 {z0 : Int64} : WP (MX0_holdsAsSmall g) Q (9, [l0, l1, l2], .long z0 :: .ref p :: st, w, k, n) = (go (rd g w p) 4 (fun _ => True) ∧ wt st ≤ 8 ∧ k + 0 ≤ 0 ∧ n + 0 ≤ 0 ∧ WP (MX0_holds g) (kx (fun v w' => WP (MX0_holdsAsSmall g) Q (12, [l0, l1, l2], v.toList ++ st, w', k + 0, n + 0)) (fun E w' => Q (.inr E) w')) (0, [some (.ref p), some (.long z0), none], [], w, 0, 0)) := csV (M := (MX0_holdsAsSmall g)) (mc := (fun _ _ => 0)) (ms := (fun _ _ => 0)) (As := [.long z0]) (rest := st) (MX0_holds g) rfl rfl dX0_holdsAsSmall_9 (by exact fun h => nomatch (show (none : Option Nat) = some 11 from h)) (by exact fun h => nomatch (show (none : Option Nat) = some 15 from h)) rfl rfl (by decide) (Nat.le_of_ble_eq_true rfl) (Nat.le_of_ble_eq_true rfl) rfl
theorem eX0_holdsAsSmall_12 : WP (MX0_holdsAsSmall g) Q (12, [l0, l1, l2], .int a :: st, w, k, n) = if a = 0 then WP (MX0_holdsAsSmall g) Q (19, [l0, l1, l2], st, w, k, n) else WP (MX0_holdsAsSmall g) Q (15, [l0, l1, l2], st, w, k, n) := ifc_e (a = 0) rfl dX0_holdsAsSmall_12 rfl (by decide)
theorem eX0_holdsAsSmall_15 : WP (MX0_holdsAsSmall g) Q (15, [l0, l1, l2], st, w, k, n) = WP (MX0_holdsAsSmall g) Q (16, [l0, l1, l2], .int 1 :: st, w, k, n) := iconst_e rfl dX0_holdsAsSmall_15 (by decide)
theorem eX0_holdsAsSmall_16 : WP (MX0_holdsAsSmall g) Q (16, [l0, l1, l2], st, w, k, n) = WP (MX0_holdsAsSmall g) Q (20, [l0, l1, l2], st, w, k, n) := goto_e rfl dX0_holdsAsSmall_16 (by decide)
theorem eX0_holdsAsSmall_19 : WP (MX0_holdsAsSmall g) Q (19, [l0, l1, l2], st, w, k, n) = WP (MX0_holdsAsSmall g) Q (20, [l0, l1, l2], .int 0 :: st, w, k, n) := iconst_e rfl dX0_holdsAsSmall_19 (by decide)
theorem eX0_holdsAsSmall_20 : WP (MX0_holdsAsSmall g) Q (20, [l0, l1, l2], [.int a], w, k, n) = (narrow (.boolean) (.int a) = .int a ∧ k ≤ 0 ∧ n ≤ 0 ∧ Q (.inl (some (.int a))) w) := iret_e rfl dX0_holdsAsSmall_20 rfl
end
theorem wk_219 : (.code yX0_fitsSmall cX0_fitsSmall 1 (some .boolean) : Jvm.Cond) ∈ WS := WS_at 219 (by decide +kernel) rfl
theorem wk_216 : (.methodLink RX0 35 yX0_fitsSmall : Jvm.Cond) ∈ WS := WS_at 216 (by decide +kernel) rfl
theorem wk_218 : (.instanceMethod yX0_fitsSmall : Jvm.Cond) ∈ WS := WS_at 218 (by decide +kernel) rfl
theorem wk_7 : (.selects RX0 yX0_fitsSmall yX0_fitsSmall : Jvm.Cond) ∈ WS := WS_at 7 (by decide +kernel) rfl
theorem wk_203 : (.code yX0_holds cX0_holds 3 (some .boolean) : Jvm.Cond) ∈ WS := WS_at 203 (by decide +kernel) rfl
theorem wk_222 : (.methodLink RX0 39 yX0_holds : Jvm.Cond) ∈ WS := WS_at 222 (by decide +kernel) rfl
theorem wk_202 : (.instanceMethod yX0_holds : Jvm.Cond) ∈ WS := WS_at 202 (by decide +kernel) rfl
theorem wk_4 : (.selects RX0 yX0_holds yX0_holds : Jvm.Cond) ∈ WS := WS_at 4 (by decide +kernel) rfl
theorem vMX0_holdsAsSmall {l : Launch} (hl : l.stackTraces = false) (G : GT) : vM l G (MX0_holdsAsSmall (gg G)) := ⟨fun i c j h => lookup_all (l := (MX0_holdsAsSmall (gg G)).fld) (P := fun i e => vFld RX0 i e.1 e.2) (all_n) i (c, j) h, fun i c fs h => lookup_all (l := (MX0_holdsAsSmall (gg G)).new) (P := fun i e => vNew RX0 i e.1 e.2) (all_n) i (c, fs) h, lookup_all (l := (MX0_holdsAsSmall (gg G)).anew) (P := fun i e => vANew RX0 i e) (all_n), lookup_all (l := (MX0_holdsAsSmall (gg G)).lng) (P := fun i e => Jvm.Cond.constantLong RX0 i e ∈ WS) (all_n), lookup_all (l := (MX0_holdsAsSmall (gg G)).thr) (P := fun i e => vThr RX0 cX0_holdsAsSmall i e) (all_n), fun h => absurd rfl h, lookup_all (l := (MX0_holdsAsSmall (gg G)).cal) (P := fun i e => vCal l G RX0 i e) (all_c (⟨cX0_fitsSmall, 1, some .boolean, fun y hy => by subst hy; exact ⟨by decide, ⟨_, wk_219, okX0_fitsSmall hl, Or.inl ⟨Nat.ne_of_beq_eq_false rfl, rfl⟩⟩, wk_84, ⟨(by decide : yX0_fitsSmall.cls ≠ "java/lang/invoke/MethodHandle"), (by decide : yX0_fitsSmall.cls ≠ "java/lang/invoke/VarHandle")⟩, ⟨(by decide +kernel : (parseMethodDescriptor yX0_fitsSmall.desc).map (fun d => d.parameters.length + 1) = some 1), wk_216, wk_218, wk_7, (RX0, TX0, 4), rfl, rfl⟩⟩⟩) (all_c (⟨cX0_holds, 3, some .boolean, fun y hy => by subst hy; exact ⟨by decide, ⟨_, wk_203, okX0_holds hl, Or.inl ⟨Nat.ne_of_beq_eq_false rfl, rfl⟩⟩, wk_84, ⟨(by decide : yX0_holds.cls ≠ "java/lang/invoke/MethodHandle"), (by decide : yX0_holds.cls ≠ "java/lang/invoke/VarHandle")⟩, ⟨(by decide +kernel : (parseMethodDescriptor yX0_holds.desc).map (fun d => d.parameters.length + 1) = some 2), wk_222, wk_202, wk_4, (RX0, TX0, 4), rfl, rfl⟩⟩⟩) (all_n))), lookup_all (l := (MX0_holdsAsSmall (gg G)).stt) (P := fun i e => vStt G RX0 i e) (all_n), lookup_all (l := (MX0_holdsAsSmall (gg G)).cst) (P := fun i e => vCst RX0 i e) (all_n), fun h => absurd rfl h, rfl, all_n⟩
theorem okX0_holdsAsSmall {l : Launch} (hl : l.stackTraces = false) {G : GT} : ∀ (args : List Value) (w : Hw) (S : Ot → Hw → Prop), spOf (MX0_holdsAsSmall (gg G)) args w S → CX l G yX0_holdsAsSmall (.code yX0_holdsAsSmall cX0_holdsAsSmall 3 (some .boolean)) 2 0 0 args w S := CX_sp (M := MX0_holdsAsSmall (gg G)) (y := yX0_holdsAsSmall) hl (by decide) rfl (vMX0_holdsAsSmall hl G) (fun h => by cases h) rfl
/-! Rangecard$Range.holdsAs(JZ)Z -/
theorem dX0_holdsAs_0 : decode cX0_holdsAs 0 = .ok (.iload_n 3, 1) := by decide +kernel
theorem dX0_holdsAs_1 : decode cX0_holdsAs 1 = .ok (.ifCond .eq 11, 3) := by decide +kernel
theorem dX0_holdsAs_4 : decode cX0_holdsAs 4 = .ok (.aload_n 0, 1) := by decide +kernel
theorem dX0_holdsAs_5 : decode cX0_holdsAs 5 = .ok (.lload_n 1, 1) := by decide +kernel
theorem dX0_holdsAs_6 : decode cX0_holdsAs 6 = .ok (.invokevirtual 43, 3) := by decide +kernel
theorem dX0_holdsAs_9 : decode cX0_holdsAs 9 = .ok (.goto 8, 3) := by decide +kernel
theorem dX0_holdsAs_12 : decode cX0_holdsAs 12 = .ok (.aload_n 0, 1) := by decide +kernel
theorem dX0_holdsAs_13 : decode cX0_holdsAs 13 = .ok (.lload_n 1, 1) := by decide +kernel
theorem dX0_holdsAs_14 : decode cX0_holdsAs 14 = .ok (.invokevirtual 39, 3) := by decide +kernel
theorem dX0_holdsAs_17 : decode cX0_holdsAs 17 = .ok (.ireturn, 1) := by decide +kernel
def MX0_holdsAs (g : RO) : MT := ((RX0, cX0_holdsAs, 4, 3, 0, 0, false, some .boolean), [], [], [], [], [], 0, [(43, 2, 2, 4, 2, (fun _ _ => 0), (fun _ _ => 0), yX0_holdsAsSmall, spOf (MX0_holdsAsSmall g)), (39, 2, 2, 4, 1, (fun _ _ => 0), (fun _ _ => 0), yX0_holds, spOf (MX0_holds g))], [], [], 0, [], [], g)
section
variable {g : RO} {Q : Ot → Hw → Prop} {st : List Value} {w : Hw} {k n p q : Nat} {a b : Int32} {x y : Int64} {u v : Value} {l0 l1 l2 l3 : Option Value}
theorem eX0_holdsAs_0 : WP (MX0_holdsAs g) Q (0, [l0, l1, l2, some (.int a)], st, w, k, n) = WP (MX0_holdsAs g) Q (1, [l0, l1, l2, some (.int a)], .int a :: st, w, k, n) := Eq.trans (WP_at (M := (MX0_holdsAs g)) rfl dX0_holdsAs_0 (Or.inr rfl)) rfl
theorem eX0_holdsAs_1 : WP (MX0_holdsAs g) Q (1, [l0, l1, l2, l3], .int a :: st, w, k, n) = if a = 0 then WP (MX0_holdsAs g) Q (12, [l0, l1, l2, l3], st, w, k, n) else WP (MX0_holdsAs g) Q (4, [l0, l1, l2, l3], st, w, k, n) := ifc_e (a = 0) rfl dX0_holdsAs_1 rfl (by decide)
theorem eX0_holdsAs_4 : WP (MX0_holdsAs g) Q (4, [some (.ref p), l1, l2, l3], st, w, k, n) = WP (MX0_holdsAs g) Q (5, [some (.ref p), l1, l2, l3], .ref p :: st, w, k, n) := Eq.trans (WP_at (M := (MX0_holdsAs g)) rfl dX0_holdsAs_4 (Or.inr rfl)) rfl
theorem eX0_holdsAs_4N : WP (MX0_holdsAs g) Q (4, [some .null, l1, l2, l3], st, w, k, n) = WP (MX0_holdsAs g) Q (5, [some .null, l1, l2, l3], .null :: st, w, k, n) := Eq.trans (WP_at (M := (MX0_holdsAs g)) rfl dX0_holdsAs_4 (Or.inr rfl)) rfl
theorem eX0_holdsAs_5 : WP (MX0_holdsAs g) Q (5, [l0, some (.long x), l2, l3], st, w, k, n) = WP (MX0_holdsAs g) Q (6, [l0, some (.long x), l2, l3], .long x :: st, w, k, n) := Eq.trans (WP_at (M := (MX0_holdsAs g)) rfl dX0_holdsAs_5 (Or.inr rfl)) rfl
theorem eX0_holdsAs_6 {z0 : Int64} : WP (MX0_holdsAs g) Q (6, [l0, l1, l2, l3], .long z0 :: .ref p :: st, w, k, n) = (go (rd g w p) 4 (fun _ => True) ∧ wt st ≤ 8 ∧ k + 0 ≤ 0 ∧ n + 0 ≤ 0 ∧ WP (MX0_holdsAsSmall g) (kx (fun v w' => WP (MX0_holdsAs g) Q (9, [l0, l1, l2, l3], v.toList ++ st, w', k + 0, n + 0)) (fun E w' => Q (.inr E) w')) (0, [some (.ref p), some (.long z0), none], [], w, 0, 0)) := csV (M := (MX0_holdsAs g)) (mc := (fun _ _ => 0)) (ms := (fun _ _ => 0)) (As := [.long z0]) (rest := st) (MX0_holdsAsSmall g) rfl rfl dX0_holdsAs_6 (by exact fun h => nomatch (show (none : Option Nat) = some 11 from h)) (by exact fun h => nomatch (show (none : Option Nat) = some 15 from h)) rfl rfl (by decide) (Nat.le_of_ble_eq_true rfl) (Nat.le_of_ble_eq_true rfl) rfl
theorem eX0_holdsAs_9 : WP (MX0_holdsAs g) Q (9, [l0, l1, l2, l3], st, w, k, n) = WP (MX0_holdsAs g) Q (17, [l0, l1, l2, l3], st, w, k, n) := goto_e rfl dX0_holdsAs_9 (by decide)
theorem eX0_holdsAs_12 : WP (MX0_holdsAs g) Q (12, [some (.ref p), l1, l2, l3], st, w, k, n) = WP (MX0_holdsAs g) Q (13, [some (.ref p), l1, l2, l3], .ref p :: st, w, k, n) := Eq.trans (WP_at (M := (MX0_holdsAs g)) rfl dX0_holdsAs_12 (Or.inr rfl)) rfl
theorem eX0_holdsAs_12N : WP (MX0_holdsAs g) Q (12, [some .null, l1, l2, l3], st, w, k, n) = WP (MX0_holdsAs g) Q (13, [some .null, l1, l2, l3], .null :: st, w, k, n) := Eq.trans (WP_at (M := (MX0_holdsAs g)) rfl dX0_holdsAs_12 (Or.inr rfl)) rfl
theorem eX0_holdsAs_13 : WP (MX0_holdsAs g) Q (13, [l0, some (.long x), l2, l3], st, w, k, n) = WP (MX0_holdsAs g) Q (14, [l0, some (.long x), l2, l3], .long x :: st, w, k, n) := Eq.trans (WP_at (M := (MX0_holdsAs g)) rfl dX0_holdsAs_13 (Or.inr rfl)) rfl
theorem eX0_holdsAs_14 {z0 : Int64} : WP (MX0_holdsAs g) Q (14, [l0, l1, l2, l3], .long z0 :: .ref p :: st, w, k, n) = (go (rd g w p) 4 (fun _ => True) ∧ wt st ≤ 8 ∧ k + 0 ≤ 0 ∧ n + 0 ≤ 0 ∧ WP (MX0_holds g) (kx (fun v w' => WP (MX0_holdsAs g) Q (17, [l0, l1, l2, l3], v.toList ++ st, w', k + 0, n + 0)) (fun E w' => Q (.inr E) w')) (0, [some (.ref p), some (.long z0), none], [], w, 0, 0)) := csV (M := (MX0_holdsAs g)) (mc := (fun _ _ => 0)) (ms := (fun _ _ => 0)) (As := [.long z0]) (rest := st) (MX0_holds g) rfl rfl dX0_holdsAs_14 (by exact fun h => nomatch (show (none : Option Nat) = some 11 from h)) (by exact fun h => nomatch (show (none : Option Nat) = some 15 from h)) rfl rfl (by decide) (Nat.le_of_ble_eq_true rfl) (Nat.le_of_ble_eq_true rfl) rfl
theorem eX0_holdsAs_17 : WP (MX0_holdsAs g) Q (17, [l0, l1, l2, l3], [.int a], w, k, n) = (narrow (.boolean) (.int a) = .int a ∧ k ≤ 0 ∧ n ≤ 0 ∧ Q (.inl (some (.int a))) w) := iret_e rfl dX0_holdsAs_17 rfl
end
theorem wk_215 : (.code yX0_holdsAsSmall cX0_holdsAsSmall 3 (some .boolean) : Jvm.Cond) ∈ WS := WS_at 215 (by decide +kernel) rfl
theorem wk_286 : (.methodLink RX0 43 yX0_holdsAsSmall : Jvm.Cond) ∈ WS := WS_at 286 (by decide +kernel) rfl
theorem wk_214 : (.instanceMethod yX0_holdsAsSmall : Jvm.Cond) ∈ WS := WS_at 214 (by decide +kernel) rfl
theorem wk_6 : (.selects RX0 yX0_holdsAsSmall yX0_holdsAsSmall : Jvm.Cond) ∈ WS := WS_at 6 (by decide +kernel) rfl
theorem vMX0_holdsAs {l : Launch} (hl : l.stackTraces = false) (G : GT) : vM l G (MX0_holdsAs (gg G)) := ⟨fun i c j h => lookup_all (l := (MX0_holdsAs (gg G)).fld) (P := fun i e => vFld RX0 i e.1 e.2) (all_n) i (c, j) h, fun i c fs h => lookup_all (l := (MX0_holdsAs (gg G)).new) (P := fun i e => vNew RX0 i e.1 e.2) (all_n) i (c, fs) h, lookup_all (l := (MX0_holdsAs (gg G)).anew) (P := fun i e => vANew RX0 i e) (all_n), lookup_all (l := (MX0_holdsAs (gg G)).lng) (P := fun i e => Jvm.Cond.constantLong RX0 i e ∈ WS) (all_n), lookup_all (l := (MX0_holdsAs (gg G)).thr) (P := fun i e => vThr RX0 cX0_holdsAs i e) (all_n), fun h => absurd rfl h, lookup_all (l := (MX0_holdsAs (gg G)).cal) (P := fun i e => vCal l G RX0 i e) (all_c (⟨cX0_holdsAsSmall, 3, some .boolean, fun y hy => by subst hy; exact ⟨by decide, ⟨_, wk_215, okX0_holdsAsSmall hl, Or.inl ⟨Nat.ne_of_beq_eq_false rfl, rfl⟩⟩, wk_84, ⟨(by decide : yX0_holdsAsSmall.cls ≠ "java/lang/invoke/MethodHandle"), (by decide : yX0_holdsAsSmall.cls ≠ "java/lang/invoke/VarHandle")⟩, ⟨(by decide +kernel : (parseMethodDescriptor yX0_holdsAsSmall.desc).map (fun d => d.parameters.length + 1) = some 2), wk_286, wk_214, wk_6, (RX0, TX0, 4), rfl, rfl⟩⟩⟩) (all_c (⟨cX0_holds, 3, some .boolean, fun y hy => by subst hy; exact ⟨by decide, ⟨_, wk_203, okX0_holds hl, Or.inl ⟨Nat.ne_of_beq_eq_false rfl, rfl⟩⟩, wk_84, ⟨(by decide : yX0_holds.cls ≠ "java/lang/invoke/MethodHandle"), (by decide : yX0_holds.cls ≠ "java/lang/invoke/VarHandle")⟩, ⟨(by decide +kernel : (parseMethodDescriptor yX0_holds.desc).map (fun d => d.parameters.length + 1) = some 2), wk_222, wk_202, wk_4, (RX0, TX0, 4), rfl, rfl⟩⟩⟩) (all_n))), lookup_all (l := (MX0_holdsAs (gg G)).stt) (P := fun i e => vStt G RX0 i e) (all_n), lookup_all (l := (MX0_holdsAs (gg G)).cst) (P := fun i e => vCst RX0 i e) (all_n), fun h => absurd rfl h, rfl, all_n⟩
theorem okX0_holdsAs {l : Launch} (hl : l.stackTraces = false) {G : GT} : ∀ (args : List Value) (w : Hw) (S : Ot → Hw → Prop), spOf (MX0_holdsAs (gg G)) args w S → CX l G yX0_holdsAs (.code yX0_holdsAs cX0_holdsAs 4 (some .boolean)) 3 0 0 args w S := CX_sp (M := MX0_holdsAs (gg G)) (y := yX0_holdsAs) hl (by decide) rfl (vMX0_holdsAs hl G) (fun h => by cases h) rfl
/-! Rangecard$Range.isSettled()Z -/
theorem dX0_isSettled_0 : decode cX0_isSettled 0 = .ok (.aload_n 0, 1) := by decide +kernel
theorem dX0_isSettled_1 : decode cX0_isSettled 1 = .ok (.getfield 9, 3) := by decide +kernel
theorem dX0_isSettled_4 : decode cX0_isSettled 4 = .ok (.aload_n 0, 1) := by decide +kernel
theorem dX0_isSettled_5 : decode cX0_isSettled 5 = .ok (.getfield 15, 3) := by decide +kernel
theorem dX0_isSettled_8 : decode cX0_isSettled 8 = .ok (.lcmp, 1) := by decide +kernel
theorem dX0_isSettled_9 : decode cX0_isSettled 9 = .ok (.ifCond .ne 19, 3) := by decide +kernel
theorem dX0_isSettled_12 : decode cX0_isSettled 12 = .ok (.aload_n 0, 1) := by decide +kernel
theorem dX0_isSettled_13 : decode cX0_isSettled 13 = .ok (.getfield 18, 3) := by decide +kernel
theorem dX0_isSettled_16 : decode cX0_isSettled 16 = .ok (.aload_n 0, 1) := by decide +kernel
theorem dX0_isSettled_17 : decode cX0_isSettled 17 = .ok (.getfield 21, 3) := by decide +kernel
theorem dX0_isSettled_20 : decode cX0_isSettled 20 = .ok (.lcmp, 1) := by decide +kernel
theorem dX0_isSettled_21 : decode cX0_isSettled 21 = .ok (.ifCond .ne 7, 3) := by decide +kernel
theorem dX0_isSettled_24 : decode cX0_isSettled 24 = .ok (.iconst 1, 1) := by decide +kernel
theorem dX0_isSettled_25 : decode cX0_isSettled 25 = .ok (.goto 4, 3) := by decide +kernel
theorem dX0_isSettled_28 : decode cX0_isSettled 28 = .ok (.iconst 0, 1) := by decide +kernel
theorem dX0_isSettled_29 : decode cX0_isSettled 29 = .ok (.ireturn, 1) := by decide +kernel
def MX0_isSettled (g : RO) : MT := ((RX0, cX0_isSettled, 1, 1, 0, 0, false, some .boolean), [(9, 4, 0), (15, 4, 1), (18, 4, 2), (21, 4, 3)], [], [], [], [], 0, [], [], [], 0, [], [], g)
section
variable {g : RO} {Q : Ot → Hw → Prop} {st : List Value} {w : Hw} {k n p q : Nat} {a b : Int32} {x y : Int64} {u v : Value} {l0 : Option Value}
theorem eX0_isSettled_0 : WP (MX0_isSettled g) Q (0, [some (.ref p)], st, w, k, n) = WP (MX0_isSettled g) Q (1, [some (.ref p)], .ref p :: st, w, k, n) := Eq.trans (WP_at (M := (MX0_isSettled g)) rfl dX0_isSettled_0 (Or.inr rfl)) rfl
theorem eX0_isSettled_0N : WP (MX0_isSettled g) Q (0, [some .null], st, w, k, n) = WP (MX0_isSettled g) Q (1, [some .null], .null :: st, w, k, n) := Eq.trans (WP_at (M := (MX0_isSettled g)) rfl dX0_isSettled_0 (Or.inr rfl)) rfl
theorem eX0_isSettled_1 : WP (MX0_isSettled g) Q (1, [l0], .ref p :: st, w, k, n) = go (rd g w p) 4 fun fs => ∃ v, fs[0]? = some v ∧ WP (MX0_isSettled g) Q (4, [l0], v :: st, w, k, n) := get_e rfl dX0_isSettled_1 rfl
theorem eX0_isSettled_4 : WP (MX0_isSettled g) Q (4, [some (.ref p)], st, w, k, n) = WP (MX0_isSettled g) Q (5, [some (.ref p)], .ref p :: st, w, k, n) := Eq.trans (WP_at (M := (MX0_isSettled g)) rfl dX0_isSettled_4 (Or.inr rfl)) rfl
theorem eX0_isSettled_4N : WP (MX0_isSettled g) Q (4, [some .null], st, w, k, n) = WP (MX0_isSettled g) Q (5, [some .null], .null :: st, w, k, n) := Eq.trans (WP_at (M := (MX0_isSettled g)) rfl dX0_isSettled_4 (Or.inr rfl)) rfl
theorem eX0_isSettled_5 : WP (MX0_isSettled g) Q (5, [l0], .ref p :: st, w, k, n) = go (rd g w p) 4 fun fs => ∃ v, fs[1]? = some v ∧ WP (MX0_isSettled g) Q (8, [l0], v :: st, w, k, n) := get_e rfl dX0_isSettled_5 rfl
theorem eX0_isSettled_8 : WP (MX0_isSettled g) Q (8, [l0], .long y :: .long x :: st, w, k, n) = WP (MX0_isSettled g) Q (9, [l0], .int (lg_cmp x y) :: st, w, k, n) := Eq.trans (WP_at (M := (MX0_isSettled g)) rfl dX0_isSettled_8 (Or.inr rfl)) rfl
theorem eX0_isSettled_9 : WP (MX0_isSettled g) Q (9, [l0], .int a :: st, w, k, n) = if a = 0 then WP (MX0_isSettled g) Q (12, [l0], st, w, k, n) else WP (MX0_isSettled g) Q (28, [l0], st, w, k, n) := ifcn_e (a = 0) rfl dX0_isSettled_9 rfl (by decide)
theorem eX0_isSettled_12 : WP (MX0_isSettled g) Q (12, [some (.ref p)], st, w, k, n) = WP (MX0_isSettled g) Q (13, [some (.ref p)], .ref p :: st, w, k, n) := Eq.trans (WP_at (M := (MX0_isSettled g)) rfl dX0_isSettled_12 (Or.inr rfl)) rfl
theorem eX0_isSettled_12N : WP (MX0_isSettled g) Q (12, [some .null], st, w, k, n) = WP (MX0_isSettled g) Q (13, [some .null], .null :: st, w, k, n) := Eq.trans (WP_at (M := (MX0_isSettled g)) rfl dX0_isSettled_12 (Or.inr rfl)) rfl
theorem eX0_isSettled_13 : WP (MX0_isSettled g) Q (13, [l0], .ref p :: st, w, k, n) = go (rd g w p) 4 fun fs => ∃ v, fs[2]? = some v ∧ WP (MX0_isSettled g) Q (16, [l0], v :: st, w, k, n) := get_e rfl dX0_isSettled_13 rfl
theorem eX0_isSettled_16 : WP (MX0_isSettled g) Q (16, [some (.ref p)], st, w, k, n) = WP (MX0_isSettled g) Q (17, [some (.ref p)], .ref p :: st, w, k, n) := Eq.trans (WP_at (M := (MX0_isSettled g)) rfl dX0_isSettled_16 (Or.inr rfl)) rfl
theorem eX0_isSettled_16N : WP (MX0_isSettled g) Q (16, [some .null], st, w, k, n) = WP (MX0_isSettled g) Q (17, [some .null], .null :: st, w, k, n) := Eq.trans (WP_at (M := (MX0_isSettled g)) rfl dX0_isSettled_16 (Or.inr rfl)) rfl
theorem eX0_isSettled_17 : WP (MX0_isSettled g) Q (17, [l0], .ref p :: st, w, k, n) = go (rd g w p) 4 fun fs => ∃ v, fs[3]? = some v ∧ WP (MX0_isSettled g) Q (20, [l0], v :: st, w, k, n) := get_e rfl dX0_isSettled_17 rfl
theorem eX0_isSettled_20 : WP (MX0_isSettled g) Q (20, [l0], .long y :: .long x :: st, w, k, n) = WP (MX0_isSettled g) Q (21, [l0], .int (lg_cmp x y) :: st, w, k, n) := Eq.trans (WP_at (M := (MX0_isSettled g)) rfl dX0_isSettled_20 (Or.inr rfl)) rfl
theorem eX0_isSettled_21 : WP (MX0_isSettled g) Q (21, [l0], .int a :: st, w, k, n) = if a = 0 then WP (MX0_isSettled g) Q (24, [l0], st, w, k, n) else WP (MX0_isSettled g) Q (28, [l0], st, w, k, n) := ifcn_e (a = 0) rfl dX0_isSettled_21 rfl (by decide)
theorem eX0_isSettled_24 : WP (MX0_isSettled g) Q (24, [l0], st, w, k, n) = WP (MX0_isSettled g) Q (25, [l0], .int 1 :: st, w, k, n) := iconst_e rfl dX0_isSettled_24 (by decide)
theorem eX0_isSettled_25 : WP (MX0_isSettled g) Q (25, [l0], st, w, k, n) = WP (MX0_isSettled g) Q (29, [l0], st, w, k, n) := goto_e rfl dX0_isSettled_25 (by decide)
theorem eX0_isSettled_28 : WP (MX0_isSettled g) Q (28, [l0], st, w, k, n) = WP (MX0_isSettled g) Q (29, [l0], .int 0 :: st, w, k, n) := iconst_e rfl dX0_isSettled_28 (by decide)
theorem eX0_isSettled_29 : WP (MX0_isSettled g) Q (29, [l0], [.int a], w, k, n) = (narrow (.boolean) (.int a) = .int a ∧ k ≤ 0 ∧ n ≤ 0 ∧ Q (.inl (some (.int a))) w) := iret_e rfl dX0_isSettled_29 rfl
end
theorem vMX0_isSettled {l : Launch} (hl : l.stackTraces = false) (G : GT) : vM l G (MX0_isSettled (gg G)) := ⟨fun i c j h => lookup_all (l := (MX0_isSettled (gg G)).fld) (P := fun i e => vFld RX0 i e.1 e.2) (all_c (vF_RX0_9) (all_c (vF_RX0_15) (all_c (vF_RX0_18) (all_c (vF_RX0_21) (all_n))))) i (c, j) h, fun i c fs h => lookup_all (l := (MX0_isSettled (gg G)).new) (P := fun i e => vNew RX0 i e.1 e.2) (all_n) i (c, fs) h, lookup_all (l := (MX0_isSettled (gg G)).anew) (P := fun i e => vANew RX0 i e) (all_n), lookup_all (l := (MX0_isSettled (gg G)).lng) (P := fun i e => Jvm.Cond.constantLong RX0 i e ∈ WS) (all_n), lookup_all (l := (MX0_isSettled (gg G)).thr) (P := fun i e => vThr RX0 cX0_isSettled i e) (all_n), fun h => absurd rfl h, lookup_all (l := (MX0_isSettled (gg G)).cal) (P := fun i e => vCal l G RX0 i e) (all_n), lookup_all (l := (MX0_isSettled (gg G)).stt) (P := fun i e => vStt G RX0 i e) (all_n), lookup_all (l := (MX0_isSettled (gg G)).cst) (P := fun i e => vCst RX0 i e) (all_n), fun h => absurd rfl h, rfl, all_n⟩
theorem okX0_isSettled {l : Launch} (hl : l.stackTraces = false) {G : GT} : ∀ (args : List Value) (w : Hw) (S : Ot → Hw → Prop), spOf (MX0_isSettled (gg G)) args w S → CX l G yX0_isSettled (.code yX0_isSettled cX0_isSettled 1 (some .boolean)) 1 0 0 args w S := CX_sp (M := MX0_isSettled (gg G)) (y := yX0_isSettled) hl (by decide) rfl (vMX0_isSettled hl G) (fun h => by cases h) rfl
/-! Rangecard$Range.matches(LRangecard$Range;)Z -/
theorem dX0_matches_0 : decode cX0_matches 0 = .ok (.aload_n 1, 1) := by decide +kernel
theorem dX0_matches_1 : decode cX0_matches 1 = .ok (.ifnull 55, 3) := by decide +kernel
theorem dX0_matches_4 : decode cX0_matches 4 = .ok (.aload_n 0, 1) := by decide +kernel
theorem dX0_matches_5 : decode cX0_matches 5 = .ok (.getfield 9, 3) := by decide +kernel
theorem dX0_matches_8 : decode cX0_matches 8 = .ok (.aload_n 1, 1) := by decide +kernel
theorem dX0_matches_9 : decode cX0_matches 9 = .ok (.getfield 9, 3) := by decide +kernel
theorem dX0_matches_12 : decode cX0_matches 12 = .ok (.lcmp, 1) := by decide +kernel
theorem dX0_matches_13 : decode cX0_matches 13 = .ok (.ifCond .ne 43, 3) := by decide +kernel
theorem dX0_matches_16 : decode cX0_matches 16 = .ok (.aload_n 0, 1) := by decide +kernel
theorem dX0_matches_17 : decode cX0_matches 17 = .ok (.getfield 15, 3) := by decide +kernel
theorem dX0_matches_20 : decode cX0_matches 20 = .ok (.aload_n 1, 1) := by decide +kernel
theorem dX0_matches_21 : decode cX0_matches 21 = .ok (.getfield 15, 3) := by decide +kernel
theorem dX0_matches_24 : decode cX0_matches 24 = .ok (.lcmp, 1) := by decide +kernel
theorem dX0_matches_25 : decode cX0_matches 25 = .ok (.ifCond .ne 31, 3) := by decide +kernel
theorem dX0_matches_28 : decode cX0_matches 28 = .ok (.aload_n 0, 1) := by decide +kernel
theorem dX0_matches_29 : decode cX0_matches 29 = .ok (.getfield 18, 3) := by decide +kernel
theorem dX0_matches_32 : decode cX0_matches 32 = .ok (.aload_n 1, 1) := by decide +kernel
theorem dX0_matches_33 : decode cX0_matches 33 = .ok (.getfield 18, 3) := by decide +kernel
theorem dX0_matches_36 : decode cX0_matches 36 = .ok (.lcmp, 1) := by decide +kernel
theorem dX0_matches_37 : decode cX0_matches 37 = .ok (.ifCond .ne 19, 3) := by decide +kernel
theorem dX0_matches_40 : decode cX0_matches 40 = .ok (.aload_n 0, 1) := by decide +kernel
theorem dX0_matches_41 : decode cX0_matches 41 = .ok (.getfield 21, 3) := by decide +kernel
theorem dX0_matches_44 : decode cX0_matches 44 = .ok (.aload_n 1, 1) := by decide +kernel
theorem dX0_matches_45 : decode cX0_matches 45 = .ok (.getfield 21, 3) := by decide +kernel
theorem dX0_matches_48 : decode cX0_matches 48 = .ok (.lcmp, 1) := by decide +kernel
theorem dX0_matches_49 : decode cX0_matches 49 = .ok (.ifCond .ne 7, 3) := by decide +kernel
theorem dX0_matches_52 : decode cX0_matches 52 = .ok (.iconst 1, 1) := by decide +kernel
theorem dX0_matches_53 : decode cX0_matches 53 = .ok (.goto 4, 3) := by decide +kernel
theorem dX0_matches_56 : decode cX0_matches 56 = .ok (.iconst 0, 1) := by decide +kernel
theorem dX0_matches_57 : decode cX0_matches 57 = .ok (.ireturn, 1) := by decide +kernel
def MX0_matches (g : RO) : MT := ((RX0, cX0_matches, 2, 1, 0, 0, false, some .boolean), [(9, 4, 0), (15, 4, 1), (18, 4, 2), (21, 4, 3)], [], [], [], [], 0, [], [], [], 0, [], [], g)
section
variable {g : RO} {Q : Ot → Hw → Prop} {st : List Value} {w : Hw} {k n p q : Nat} {a b : Int32} {x y : Int64} {u v : Value} {l0 l1 : Option Value}
theorem eX0_matches_0 : WP (MX0_matches g) Q (0, [l0, some (.ref p)], st, w, k, n) = WP (MX0_matches g) Q (1, [l0, some (.ref p)], .ref p :: st, w, k, n) := Eq.trans (WP_at (M := (MX0_matches g)) rfl dX0_matches_0 (Or.inr rfl)) rfl
theorem eX0_matches_0N : WP (MX0_matches g) Q (0, [l0, some .null], st, w, k, n) = WP (MX0_matches g) Q (1, [l0, some .null], .null :: st, w, k, n) := Eq.trans (WP_at (M := (MX0_matches g)) rfl dX0_matches_0 (Or.inr rfl)) rfl
theorem eX0_matches_1R : WP (MX0_matches g) Q (1, [l0, l1], .ref p :: st, w, k, n) = WP (MX0_matches g) Q (4, [l0, l1], st, w, k, n) := ifnullR_e rfl dX0_matches_1 (tgt := 56) (by decide)
theorem eX0_matches_1N : WP (MX0_matches g) Q (1, [l0, l1], .null :: st, w, k, n) = WP (MX0_matches g) Q (56, [l0, l1], st, w, k, n) := ifnullN_e rfl dX0_matches_1 (tgt := 56) (by decide)
theorem eX0_matches_4 : WP (MX0_matches g) Q (4, [some (.ref p), l1], st, w, k, n) = WP (MX0_matches g) Q (5, [some (.ref p), l1], .ref p :: st, w, k, n) := Eq.trans (WP_at (M := (MX0_matches g)) rfl dX0_matches_4 (Or.inr rfl)) rfl
theorem eX0_matches_4N : WP (MX0_matches g) Q (4, [some .null, l1], st, w, k, n) = WP (MX0_matches g) Q (5, [some .null, l1], .null :: st, w, k, n) := Eq.trans (WP_at (M := (MX0_matches g)) rfl dX0_matches_4 (Or.inr rfl)) rfl
theorem eX0_matches_5 : WP (MX0_matches g) Q (5, [l0, l1], .ref p :: st, w, k, n) = go (rd g w p) 4 fun fs => ∃ v, fs[0]? = some v ∧ WP (MX0_matches g) Q (8, [l0, l1], v :: st, w, k, n) := get_e rfl dX0_matches_5 rfl
theorem eX0_matches_8 : WP (MX0_matches g) Q (8, [l0, some (.ref p)], st, w, k, n) = WP (MX0_matches g) Q (9, [l0, some (.ref p)], .ref p :: st, w, k, n) := Eq.trans (WP_at (M := (MX0_matches g)) rfl dX0_matches_8 (Or.inr rfl)) rfl
theorem eX0_matches_8N : WP (MX0_matches g) Q (8, [l0, some .null], st, w, k, n) = WP (MX0_matches g) Q (9, [l0, some .null], .null :: st, w, k, n) := Eq.trans (WP_at (M := (MX0_matches g)) rfl dX0_matches_8 (Or.inr rfl)) rfl
theorem eX0_matches_9 : WP (MX0_matches g) Q (9, [l0, l1], .ref p :: st, w, k, n) = go (rd g w p) 4 fun fs => ∃ v, fs[0]? = some v ∧ WP (MX0_matches g) Q (12, [l0, l1], v :: st, w, k, n) := get_e rfl dX0_matches_9 rfl
theorem eX0_matches_12 : WP (MX0_matches g) Q (12, [l0, l1], .long y :: .long x :: st, w, k, n) = WP (MX0_matches g) Q (13, [l0, l1], .int (lg_cmp x y) :: st, w, k, n) := Eq.trans (WP_at (M := (MX0_matches g)) rfl dX0_matches_12 (Or.inr rfl)) rfl
theorem eX0_matches_13 : WP (MX0_matches g) Q (13, [l0, l1], .int a :: st, w, k, n) = if a = 0 then WP (MX0_matches g) Q (16, [l0, l1], st, w, k, n) else WP (MX0_matches g) Q (56, [l0, l1], st, w, k, n) := ifcn_e (a = 0) rfl dX0_matches_13 rfl (by decide)
theorem eX0_matches_16 : WP (MX0_matches g) Q (16, [some (.ref p), l1], st, w, k, n) = WP (MX0_matches g) Q (17, [some (.ref p), l1], .ref p :: st, w, k, n) := Eq.trans (WP_at (M := (MX0_matches g)) rfl dX0_matches_16 (Or.inr rfl)) rfl
theorem eX0_matches_16N : WP (MX0_matches g) Q (16, [some .null, l1], st, w, k, n) = WP (MX0_matches g) Q (17, [some .null, l1], .null :: st, w, k, n) := Eq.trans (WP_at (M := (MX0_matches g)) rfl dX0_matches_16 (Or.inr rfl)) rfl
theorem eX0_matches_17 : WP (MX0_matches g) Q (17, [l0, l1], .ref p :: st, w, k, n) = go (rd g w p) 4 fun fs => ∃ v, fs[1]? = some v ∧ WP (MX0_matches g) Q (20, [l0, l1], v :: st, w, k, n) := get_e rfl dX0_matches_17 rfl
theorem eX0_matches_20 : WP (MX0_matches g) Q (20, [l0, some (.ref p)], st, w, k, n) = WP (MX0_matches g) Q (21, [l0, some (.ref p)], .ref p :: st, w, k, n) := Eq.trans (WP_at (M := (MX0_matches g)) rfl dX0_matches_20 (Or.inr rfl)) rfl
theorem eX0_matches_20N : WP (MX0_matches g) Q (20, [l0, some .null], st, w, k, n) = WP (MX0_matches g) Q (21, [l0, some .null], .null :: st, w, k, n) := Eq.trans (WP_at (M := (MX0_matches g)) rfl dX0_matches_20 (Or.inr rfl)) rfl
theorem eX0_matches_21 : WP (MX0_matches g) Q (21, [l0, l1], .ref p :: st, w, k, n) = go (rd g w p) 4 fun fs => ∃ v, fs[1]? = some v ∧ WP (MX0_matches g) Q (24, [l0, l1], v :: st, w, k, n) := get_e rfl dX0_matches_21 rfl
theorem eX0_matches_24 : WP (MX0_matches g) Q (24, [l0, l1], .long y :: .long x :: st, w, k, n) = WP (MX0_matches g) Q (25, [l0, l1], .int (lg_cmp x y) :: st, w, k, n) := Eq.trans (WP_at (M := (MX0_matches g)) rfl dX0_matches_24 (Or.inr rfl)) rfl
theorem eX0_matches_25 : WP (MX0_matches g) Q (25, [l0, l1], .int a :: st, w, k, n) = if a = 0 then WP (MX0_matches g) Q (28, [l0, l1], st, w, k, n) else WP (MX0_matches g) Q (56, [l0, l1], st, w, k, n) := ifcn_e (a = 0) rfl dX0_matches_25 rfl (by decide)
theorem eX0_matches_28 : WP (MX0_matches g) Q (28, [some (.ref p), l1], st, w, k, n) = WP (MX0_matches g) Q (29, [some (.ref p), l1], .ref p :: st, w, k, n) := Eq.trans (WP_at (M := (MX0_matches g)) rfl dX0_matches_28 (Or.inr rfl)) rfl
theorem eX0_matches_28N : WP (MX0_matches g) Q (28, [some .null, l1], st, w, k, n) = WP (MX0_matches g) Q (29, [some .null, l1], .null :: st, w, k, n) := Eq.trans (WP_at (M := (MX0_matches g)) rfl dX0_matches_28 (Or.inr rfl)) rfl
theorem eX0_matches_29 : WP (MX0_matches g) Q (29, [l0, l1], .ref p :: st, w, k, n) = go (rd g w p) 4 fun fs => ∃ v, fs[2]? = some v ∧ WP (MX0_matches g) Q (32, [l0, l1], v :: st, w, k, n) := get_e rfl dX0_matches_29 rfl
theorem eX0_matches_32 : WP (MX0_matches g) Q (32, [l0, some (.ref p)], st, w, k, n) = WP (MX0_matches g) Q (33, [l0, some (.ref p)], .ref p :: st, w, k, n) := Eq.trans (WP_at (M := (MX0_matches g)) rfl dX0_matches_32 (Or.inr rfl)) rfl
theorem eX0_matches_32N : WP (MX0_matches g) Q (32, [l0, some .null], st, w, k, n) = WP (MX0_matches g) Q (33, [l0, some .null], .null :: st, w, k, n) := Eq.trans (WP_at (M := (MX0_matches g)) rfl dX0_matches_32 (Or.inr rfl)) rfl
theorem eX0_matches_33 : WP (MX0_matches g) Q (33, [l0, l1], .ref p :: st, w, k, n) = go (rd g w p) 4 fun fs => ∃ v, fs[2]? = some v ∧ WP (MX0_matches g) Q (36, [l0, l1], v :: st, w, k, n) := get_e rfl dX0_matches_33 rfl
theorem eX0_matches_36 : WP (MX0_matches g) Q (36, [l0, l1], .long y :: .long x :: st, w, k, n) = WP (MX0_matches g) Q (37, [l0, l1], .int (lg_cmp x y) :: st, w, k, n) := Eq.trans (WP_at (M := (MX0_matches g)) rfl dX0_matches_36 (Or.inr rfl)) rfl
theorem eX0_matches_37 : WP (MX0_matches g) Q (37, [l0, l1], .int a :: st, w, k, n) = if a = 0 then WP (MX0_matches g) Q (40, [l0, l1], st, w, k, n) else WP (MX0_matches g) Q (56, [l0, l1], st, w, k, n) := ifcn_e (a = 0) rfl dX0_matches_37 rfl (by decide)
theorem eX0_matches_40 : WP (MX0_matches g) Q (40, [some (.ref p), l1], st, w, k, n) = WP (MX0_matches g) Q (41, [some (.ref p), l1], .ref p :: st, w, k, n) := Eq.trans (WP_at (M := (MX0_matches g)) rfl dX0_matches_40 (Or.inr rfl)) rfl
theorem eX0_matches_40N : WP (MX0_matches g) Q (40, [some .null, l1], st, w, k, n) = WP (MX0_matches g) Q (41, [some .null, l1], .null :: st, w, k, n) := Eq.trans (WP_at (M := (MX0_matches g)) rfl dX0_matches_40 (Or.inr rfl)) rfl
theorem eX0_matches_41 : WP (MX0_matches g) Q (41, [l0, l1], .ref p :: st, w, k, n) = go (rd g w p) 4 fun fs => ∃ v, fs[3]? = some v ∧ WP (MX0_matches g) Q (44, [l0, l1], v :: st, w, k, n) := get_e rfl dX0_matches_41 rfl
theorem eX0_matches_44 : WP (MX0_matches g) Q (44, [l0, some (.ref p)], st, w, k, n) = WP (MX0_matches g) Q (45, [l0, some (.ref p)], .ref p :: st, w, k, n) := Eq.trans (WP_at (M := (MX0_matches g)) rfl dX0_matches_44 (Or.inr rfl)) rfl
theorem eX0_matches_44N : WP (MX0_matches g) Q (44, [l0, some .null], st, w, k, n) = WP (MX0_matches g) Q (45, [l0, some .null], .null :: st, w, k, n) := Eq.trans (WP_at (M := (MX0_matches g)) rfl dX0_matches_44 (Or.inr rfl)) rfl
theorem eX0_matches_45 : WP (MX0_matches g) Q (45, [l0, l1], .ref p :: st, w, k, n) = go (rd g w p) 4 fun fs => ∃ v, fs[3]? = some v ∧ WP (MX0_matches g) Q (48, [l0, l1], v :: st, w, k, n) := get_e rfl dX0_matches_45 rfl
theorem eX0_matches_48 : WP (MX0_matches g) Q (48, [l0, l1], .long y :: .long x :: st, w, k, n) = WP (MX0_matches g) Q (49, [l0, l1], .int (lg_cmp x y) :: st, w, k, n) := Eq.trans (WP_at (M := (MX0_matches g)) rfl dX0_matches_48 (Or.inr rfl)) rfl
theorem eX0_matches_49 : WP (MX0_matches g) Q (49, [l0, l1], .int a :: st, w, k, n) = if a = 0 then WP (MX0_matches g) Q (52, [l0, l1], st, w, k, n) else WP (MX0_matches g) Q (56, [l0, l1], st, w, k, n) := ifcn_e (a = 0) rfl dX0_matches_49 rfl (by decide)
theorem eX0_matches_52 : WP (MX0_matches g) Q (52, [l0, l1], st, w, k, n) = WP (MX0_matches g) Q (53, [l0, l1], .int 1 :: st, w, k, n) := iconst_e rfl dX0_matches_52 (by decide)
theorem eX0_matches_53 : WP (MX0_matches g) Q (53, [l0, l1], st, w, k, n) = WP (MX0_matches g) Q (57, [l0, l1], st, w, k, n) := goto_e rfl dX0_matches_53 (by decide)
theorem eX0_matches_56 : WP (MX0_matches g) Q (56, [l0, l1], st, w, k, n) = WP (MX0_matches g) Q (57, [l0, l1], .int 0 :: st, w, k, n) := iconst_e rfl dX0_matches_56 (by decide)
theorem eX0_matches_57 : WP (MX0_matches g) Q (57, [l0, l1], [.int a], w, k, n) = (narrow (.boolean) (.int a) = .int a ∧ k ≤ 0 ∧ n ≤ 0 ∧ Q (.inl (some (.int a))) w) := iret_e rfl dX0_matches_57 rfl
end
theorem vMX0_matches {l : Launch} (hl : l.stackTraces = false) (G : GT) : vM l G (MX0_matches (gg G)) := ⟨fun i c j h => lookup_all (l := (MX0_matches (gg G)).fld) (P := fun i e => vFld RX0 i e.1 e.2) (all_c (vF_RX0_9) (all_c (vF_RX0_15) (all_c (vF_RX0_18) (all_c (vF_RX0_21) (all_n))))) i (c, j) h, fun i c fs h => lookup_all (l := (MX0_matches (gg G)).new) (P := fun i e => vNew RX0 i e.1 e.2) (all_n) i (c, fs) h, lookup_all (l := (MX0_matches (gg G)).anew) (P := fun i e => vANew RX0 i e) (all_n), lookup_all (l := (MX0_matches (gg G)).lng) (P := fun i e => Jvm.Cond.constantLong RX0 i e ∈ WS) (all_n), lookup_all (l := (MX0_matches (gg G)).thr) (P := fun i e => vThr RX0 cX0_matches i e) (all_n), fun h => absurd rfl h, lookup_all (l := (MX0_matches (gg G)).cal) (P := fun i e => vCal l G RX0 i e) (all_n), lookup_all (l := (MX0_matches (gg G)).stt) (P := fun i e => vStt G RX0 i e) (all_n), lookup_all (l := (MX0_matches (gg G)).cst) (P := fun i e => vCst RX0 i e) (all_n), fun h => absurd rfl h, rfl, all_n⟩
theorem okX0_matches {l : Launch} (hl : l.stackTraces = false) {G : GT} : ∀ (args : List Value) (w : Hw) (S : Ot → Hw → Prop), spOf (MX0_matches (gg G)) args w S → CX l G yX0_matches (.code yX0_matches cX0_matches 2 (some .boolean)) 1 0 0 args w S := CX_sp (M := MX0_matches (gg G)) (y := yX0_matches) hl (by decide) rfl (vMX0_matches hl G) (fun h => by cases h) rfl
/-! Rangecard$Range.hash()J -/
theorem dX0_hash_0 : decode cX0_hash 0 = .ok (.aload_n 0, 1) := by decide +kernel
theorem dX0_hash_1 : decode cX0_hash 1 = .ok (.getfield 9, 3) := by decide +kernel
theorem dX0_hash_4 : decode cX0_hash 4 = .ok (.lstore_n 1, 1) := by decide +kernel
theorem dX0_hash_5 : decode cX0_hash 5 = .ok (.lload_n 1, 1) := by decide +kernel
theorem dX0_hash_6 : decode cX0_hash 6 = .ok (.ldc2_w 50, 3) := by decide +kernel
theorem dX0_hash_9 : decode cX0_hash 9 = .ok (.lmul, 1) := by decide +kernel
theorem dX0_hash_10 : decode cX0_hash 10 = .ok (.aload_n 0, 1) := by decide +kernel
theorem dX0_hash_11 : decode cX0_hash 11 = .ok (.getfield 15, 3) := by decide +kernel
theorem dX0_hash_14 : decode cX0_hash 14 = .ok (.ladd, 1) := by decide +kernel
theorem dX0_hash_15 : decode cX0_hash 15 = .ok (.lstore_n 1, 1) := by decide +kernel
theorem dX0_hash_16 : decode cX0_hash 16 = .ok (.lload_n 1, 1) := by decide +kernel
theorem dX0_hash_17 : decode cX0_hash 17 = .ok (.ldc2_w 50, 3) := by decide +kernel
theorem dX0_hash_20 : decode cX0_hash 20 = .ok (.lmul, 1) := by decide +kernel
theorem dX0_hash_21 : decode cX0_hash 21 = .ok (.aload_n 0, 1) := by decide +kernel
theorem dX0_hash_22 : decode cX0_hash 22 = .ok (.getfield 18, 3) := by decide +kernel
theorem dX0_hash_25 : decode cX0_hash 25 = .ok (.ladd, 1) := by decide +kernel
theorem dX0_hash_26 : decode cX0_hash 26 = .ok (.lstore_n 1, 1) := by decide +kernel
theorem dX0_hash_27 : decode cX0_hash 27 = .ok (.lload_n 1, 1) := by decide +kernel
theorem dX0_hash_28 : decode cX0_hash 28 = .ok (.ldc2_w 50, 3) := by decide +kernel
theorem dX0_hash_31 : decode cX0_hash 31 = .ok (.lmul, 1) := by decide +kernel
theorem dX0_hash_32 : decode cX0_hash 32 = .ok (.aload_n 0, 1) := by decide +kernel
theorem dX0_hash_33 : decode cX0_hash 33 = .ok (.getfield 21, 3) := by decide +kernel
theorem dX0_hash_36 : decode cX0_hash 36 = .ok (.ladd, 1) := by decide +kernel
theorem dX0_hash_37 : decode cX0_hash 37 = .ok (.lreturn, 1) := by decide +kernel
def MX0_hash (g : RO) : MT := ((RX0, cX0_hash, 3, 1, 0, 0, false, some .long), [(9, 4, 0), (15, 4, 1), (18, 4, 2), (21, 4, 3)], [], [], [(50, 31)], [], 0, [], [], [], 0, [], [], g)
section
variable {g : RO} {Q : Ot → Hw → Prop} {st : List Value} {w : Hw} {k n p q : Nat} {a b : Int32} {x y : Int64} {u v : Value} {l0 l1 l2 : Option Value}
theorem eX0_hash_0 : WP (MX0_hash g) Q (0, [some (.ref p), l1, l2], st, w, k, n) = WP (MX0_hash g) Q (1, [some (.ref p), l1, l2], .ref p :: st, w, k, n) := Eq.trans (WP_at (M := (MX0_hash g)) rfl dX0_hash_0 (Or.inr rfl)) rfl
theorem eX0_hash_0N : WP (MX0_hash g) Q (0, [some .null, l1, l2], st, w, k, n) = WP (MX0_hash g) Q (1, [some .null, l1, l2], .null :: st, w, k, n) := Eq.trans (WP_at (M := (MX0_hash g)) rfl dX0_hash_0 (Or.inr rfl)) rfl
theorem eX0_hash_1 : WP (MX0_hash g) Q (1, [l0, l1, l2], .ref p :: st, w, k, n) = go (rd g w p) 4 fun fs => ∃ v, fs[0]? = some v ∧ WP (MX0_hash g) Q (4, [l0, l1, l2], v :: st, w, k, n) := get_e rfl dX0_hash_1 rfl
theorem eX0_hash_4 : WP (MX0_hash g) Q (4, [l0, l1, l2], .long x :: st, w, k, n) = WP (MX0_hash g) Q (5, [nl l0, some (.long x), none], st, w, k, n) := by rw [WP_at (M := (MX0_hash g)) rfl dX0_hash_4 (Or.inr rfl)]; exact and_t (Nat.le_of_ble_eq_true rfl)
theorem eX0_hash_5 : WP (MX0_hash g) Q (5, [l0, some (.long x), l2], st, w, k, n) = WP (MX0_hash g) Q (6, [l0, some (.long x), l2], .long x :: st, w, k, n) := Eq.trans (WP_at (M := (MX0_hash g)) rfl dX0_hash_5 (Or.inr rfl)) rfl
theorem eX0_hash_6 : WP (MX0_hash g) Q (6, [l0, l1, l2], st, w, k, n) = WP (MX0_hash g) Q (9, [l0, l1, l2], .long 31 :: st, w, k, n) := ldc2_e rfl dX0_hash_6 rfl
theorem eX0_hash_9 : WP (MX0_hash g) Q (9, [l0, l1, l2], .long y :: .long x :: st, w, k, n) = WP (MX0_hash g) Q (10, [l0, l1, l2], .long (x * y) :: st, w, k, n) := Eq.trans (WP_at (M := (MX0_hash g)) rfl dX0_hash_9 (Or.inr rfl)) rfl
theorem eX0_hash_10 : WP (MX0_hash g) Q (10, [some (.ref p), l1, l2], st, w, k, n) = WP (MX0_hash g) Q (11, [some (.ref p), l1, l2], .ref p :: st, w, k, n) := Eq.trans (WP_at (M := (MX0_hash g)) rfl dX0_hash_10 (Or.inr rfl)) rfl
theorem eX0_hash_10N : WP (MX0_hash g) Q (10, [some .null, l1, l2], st, w, k, n) = WP (MX0_hash g) Q (11, [some .null, l1, l2], .null :: st, w, k, n) := Eq.trans (WP_at (M := (MX0_hash g)) rfl dX0_hash_10 (Or.inr rfl)) rfl
theorem eX0_hash_11 : WP (MX0_hash g) Q (11, [l0, l1, l2], .ref p :: st, w, k, n) = go (rd g w p) 4 fun fs => ∃ v, fs[1]? = some v ∧ WP (MX0_hash g) Q (14, [l0, l1, l2], v :: st, w, k, n) := get_e rfl dX0_hash_11 rfl
theorem eX0_hash_14 : WP (MX0_hash g) Q (14, [l0, l1, l2], .long y :: .long x :: st, w, k, n) = WP (MX0_hash g) Q (15, [l0, l1, l2], .long (x + y) :: st, w, k, n) := Eq.trans (WP_at (M := (MX0_hash g)) rfl dX0_hash_14 (Or.inr rfl)) rfl
theorem eX0_hash_15 : WP (MX0_hash g) Q (15, [l0, l1, l2], .long x :: st, w, k, n) = WP (MX0_hash g) Q (16, [nl l0, some (.long x), none], st, w, k, n) := by rw [WP_at (M := (MX0_hash g)) rfl dX0_hash_15 (Or.inr rfl)]; exact and_t (Nat.le_of_ble_eq_true rfl)
theorem eX0_hash_16 : WP (MX0_hash g) Q (16, [l0, some (.long x), l2], st, w, k, n) = WP (MX0_hash g) Q (17, [l0, some (.long x), l2], .long x :: st, w, k, n) := Eq.trans (WP_at (M := (MX0_hash g)) rfl dX0_hash_16 (Or.inr rfl)) rfl
theorem eX0_hash_17 : WP (MX0_hash g) Q (17, [l0, l1, l2], st, w, k, n) = WP (MX0_hash g) Q (20, [l0, l1, l2], .long 31 :: st, w, k, n) := ldc2_e rfl dX0_hash_17 rfl
theorem eX0_hash_20 : WP (MX0_hash g) Q (20, [l0, l1, l2], .long y :: .long x :: st, w, k, n) = WP (MX0_hash g) Q (21, [l0, l1, l2], .long (x * y) :: st, w, k, n) := Eq.trans (WP_at (M := (MX0_hash g)) rfl dX0_hash_20 (Or.inr rfl)) rfl
theorem eX0_hash_21 : WP (MX0_hash g) Q (21, [some (.ref p), l1, l2], st, w, k, n) = WP (MX0_hash g) Q (22, [some (.ref p), l1, l2], .ref p :: st, w, k, n) := Eq.trans (WP_at (M := (MX0_hash g)) rfl dX0_hash_21 (Or.inr rfl)) rfl
theorem eX0_hash_21N : WP (MX0_hash g) Q (21, [some .null, l1, l2], st, w, k, n) = WP (MX0_hash g) Q (22, [some .null, l1, l2], .null :: st, w, k, n) := Eq.trans (WP_at (M := (MX0_hash g)) rfl dX0_hash_21 (Or.inr rfl)) rfl
theorem eX0_hash_22 : WP (MX0_hash g) Q (22, [l0, l1, l2], .ref p :: st, w, k, n) = go (rd g w p) 4 fun fs => ∃ v, fs[2]? = some v ∧ WP (MX0_hash g) Q (25, [l0, l1, l2], v :: st, w, k, n) := get_e rfl dX0_hash_22 rfl
theorem eX0_hash_25 : WP (MX0_hash g) Q (25, [l0, l1, l2], .long y :: .long x :: st, w, k, n) = WP (MX0_hash g) Q (26, [l0, l1, l2], .long (x + y) :: st, w, k, n) := Eq.trans (WP_at (M := (MX0_hash g)) rfl dX0_hash_25 (Or.inr rfl)) rfl
theorem eX0_hash_26 : WP (MX0_hash g) Q (26, [l0, l1, l2], .long x :: st, w, k, n) = WP (MX0_hash g) Q (27, [nl l0, some (.long x), none], st, w, k, n) := by rw [WP_at (M := (MX0_hash g)) rfl dX0_hash_26 (Or.inr rfl)]; exact and_t (Nat.le_of_ble_eq_true rfl)
theorem eX0_hash_27 : WP (MX0_hash g) Q (27, [l0, some (.long x), l2], st, w, k, n) = WP (MX0_hash g) Q (28, [l0, some (.long x), l2], .long x :: st, w, k, n) := Eq.trans (WP_at (M := (MX0_hash g)) rfl dX0_hash_27 (Or.inr rfl)) rfl
theorem eX0_hash_28 : WP (MX0_hash g) Q (28, [l0, l1, l2], st, w, k, n) = WP (MX0_hash g) Q (31, [l0, l1, l2], .long 31 :: st, w, k, n) := ldc2_e rfl dX0_hash_28 rfl
theorem eX0_hash_31 : WP (MX0_hash g) Q (31, [l0, l1, l2], .long y :: .long x :: st, w, k, n) = WP (MX0_hash g) Q (32, [l0, l1, l2], .long (x * y) :: st, w, k, n) := Eq.trans (WP_at (M := (MX0_hash g)) rfl dX0_hash_31 (Or.inr rfl)) rfl
theorem eX0_hash_32 : WP (MX0_hash g) Q (32, [some (.ref p), l1, l2], st, w, k, n) = WP (MX0_hash g) Q (33, [some (.ref p), l1, l2], .ref p :: st, w, k, n) := Eq.trans (WP_at (M := (MX0_hash g)) rfl dX0_hash_32 (Or.inr rfl)) rfl
theorem eX0_hash_32N : WP (MX0_hash g) Q (32, [some .null, l1, l2], st, w, k, n) = WP (MX0_hash g) Q (33, [some .null, l1, l2], .null :: st, w, k, n) := Eq.trans (WP_at (M := (MX0_hash g)) rfl dX0_hash_32 (Or.inr rfl)) rfl
theorem eX0_hash_33 : WP (MX0_hash g) Q (33, [l0, l1, l2], .ref p :: st, w, k, n) = go (rd g w p) 4 fun fs => ∃ v, fs[3]? = some v ∧ WP (MX0_hash g) Q (36, [l0, l1, l2], v :: st, w, k, n) := get_e rfl dX0_hash_33 rfl
theorem eX0_hash_36 : WP (MX0_hash g) Q (36, [l0, l1, l2], .long y :: .long x :: st, w, k, n) = WP (MX0_hash g) Q (37, [l0, l1, l2], .long (x + y) :: st, w, k, n) := Eq.trans (WP_at (M := (MX0_hash g)) rfl dX0_hash_36 (Or.inr rfl)) rfl
theorem eX0_hash_37 : WP (MX0_hash g) Q (37, [l0, l1, l2], [.long x], w, k, n) = (k ≤ 0 ∧ n ≤ 0 ∧ Q (.inl (some (.long x))) w) := lret_e rfl dX0_hash_37 rfl
end
theorem wk_184 : (.constantLong RX0 50 (31) : Jvm.Cond) ∈ WS := WS_at 184 (by decide +kernel) rfl
theorem vMX0_hash {l : Launch} (hl : l.stackTraces = false) (G : GT) : vM l G (MX0_hash (gg G)) := ⟨fun i c j h => lookup_all (l := (MX0_hash (gg G)).fld) (P := fun i e => vFld RX0 i e.1 e.2) (all_c (vF_RX0_9) (all_c (vF_RX0_15) (all_c (vF_RX0_18) (all_c (vF_RX0_21) (all_n))))) i (c, j) h, fun i c fs h => lookup_all (l := (MX0_hash (gg G)).new) (P := fun i e => vNew RX0 i e.1 e.2) (all_n) i (c, fs) h, lookup_all (l := (MX0_hash (gg G)).anew) (P := fun i e => vANew RX0 i e) (all_n), lookup_all (l := (MX0_hash (gg G)).lng) (P := fun i e => Jvm.Cond.constantLong RX0 i e ∈ WS) (all_c (wk_184) (all_n)), lookup_all (l := (MX0_hash (gg G)).thr) (P := fun i e => vThr RX0 cX0_hash i e) (all_n), fun h => absurd rfl h, lookup_all (l := (MX0_hash (gg G)).cal) (P := fun i e => vCal l G RX0 i e) (all_n), lookup_all (l := (MX0_hash (gg G)).stt) (P := fun i e => vStt G RX0 i e) (all_n), lookup_all (l := (MX0_hash (gg G)).cst) (P := fun i e => vCst RX0 i e) (all_n), fun h => absurd rfl h, rfl, all_n⟩
theorem okX0_hash {l : Launch} (hl : l.stackTraces = false) {G : GT} : ∀ (args : List Value) (w : Hw) (S : Ot → Hw → Prop), spOf (MX0_hash (gg G)) args w S → CX l G yX0_hash (.code yX0_hash cX0_hash 3 (some .long)) 1 0 0 args w S := CX_sp (M := MX0_hash (gg G)) (y := yX0_hash) hl (by decide) rfl (vMX0_hash hl G) (fun h => by cases h) rfl
