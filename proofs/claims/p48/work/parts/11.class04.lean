/-! Rangecard.isSo(LRangecard$Range;I)Z -/
theorem dX1_isSo_0 : decode cX1_isSo 0 = .ok (.iload_n 1, 1) := by decide +kernel
theorem dX1_isSo_1 : decode cX1_isSo 1 = .ok (.lookupswitch 37 #[(1, 27), (2, 32)], 27) := by decide +kernel
theorem dX1_isSo_28 : decode cX1_isSo 28 = .ok (.aload_n 0, 1) := by decide +kernel
theorem dX1_isSo_29 : decode cX1_isSo 29 = .ok (.invokevirtual 134, 3) := by decide +kernel
theorem dX1_isSo_32 : decode cX1_isSo 32 = .ok (.ireturn, 1) := by decide +kernel
theorem dX1_isSo_33 : decode cX1_isSo 33 = .ok (.aload_n 0, 1) := by decide +kernel
theorem dX1_isSo_34 : decode cX1_isSo 34 = .ok (.invokevirtual 138, 3) := by decide +kernel
theorem dX1_isSo_37 : decode cX1_isSo 37 = .ok (.ireturn, 1) := by decide +kernel
theorem dX1_isSo_38 : decode cX1_isSo 38 = .ok (.iconst 1, 1) := by decide +kernel
theorem dX1_isSo_39 : decode cX1_isSo 39 = .ok (.ireturn, 1) := by decide +kernel
def MX1_isSo : MT := ((RX1, cX1_isSo, 2, 2, 0, 0, false, some .boolean), [], [], [], [], [], 0, [(134, 3, 1, 4, 1, 0, 0, yX0_isSettled, spOf MX0_isSettled), (138, 3, 1, 4, 1, 0, 0, yX0_fitsSmall, spOf MX0_fitsSmall)])
section
variable {Q : Ot → Hw → Prop} {st : List Value} {w : Hw} {k n p q : Nat} {a b : Int32} {x y : Int64} {u v : Value} {l0 l1 : Option Value}
theorem eX1_isSo_0 : WP MX1_isSo Q (0, [l0, some (.int a)], st, w, k, n) = WP MX1_isSo Q (1, [l0, some (.int a)], .int a :: st, w, k, n) := Eq.trans (WP_at (M := MX1_isSo) rfl dX1_isSo_0 (Or.inr rfl)) rfl
theorem eX1_isSo_1_0 : WP MX1_isSo Q (1, [l0, l1], .int 0 :: st, w, k, n) = WP MX1_isSo Q (38, [l0, l1], st, w, k, n) := lsw_e (37) rfl dX1_isSo_1 (by decide) (by decide) (by decide)
theorem eX1_isSo_1_1 : WP MX1_isSo Q (1, [l0, l1], .int 1 :: st, w, k, n) = WP MX1_isSo Q (28, [l0, l1], st, w, k, n) := lsw_e (27) rfl dX1_isSo_1 (by decide) (by decide) (by decide)
theorem eX1_isSo_1_2 : WP MX1_isSo Q (1, [l0, l1], .int 2 :: st, w, k, n) = WP MX1_isSo Q (33, [l0, l1], st, w, k, n) := lsw_e (32) rfl dX1_isSo_1 (by decide) (by decide) (by decide)
theorem eX1_isSo_1_3 : WP MX1_isSo Q (1, [l0, l1], .int 3 :: st, w, k, n) = WP MX1_isSo Q (38, [l0, l1], st, w, k, n) := lsw_e (37) rfl dX1_isSo_1 (by decide) (by decide) (by decide)
theorem eX1_isSo_1_4 : WP MX1_isSo Q (1, [l0, l1], .int 4 :: st, w, k, n) = WP MX1_isSo Q (38, [l0, l1], st, w, k, n) := lsw_e (37) rfl dX1_isSo_1 (by decide) (by decide) (by decide)
theorem eX1_isSo_28 : WP MX1_isSo Q (28, [some (.ref p), l1], st, w, k, n) = WP MX1_isSo Q (29, [some (.ref p), l1], .ref p :: st, w, k, n) := Eq.trans (WP_at (M := MX1_isSo) rfl dX1_isSo_28 (Or.inr rfl)) rfl
theorem eX1_isSo_28N : WP MX1_isSo Q (28, [some .null, l1], st, w, k, n) = WP MX1_isSo Q (29, [some .null, l1], .null :: st, w, k, n) := Eq.trans (WP_at (M := MX1_isSo) rfl dX1_isSo_28 (Or.inr rfl)) rfl
theorem eX1_isSo_29  : WP MX1_isSo Q (29, [l0, l1], .ref p :: st, w, k, n) = (go w p 4 (fun _ => True) ∧ wt st ≤ 8 ∧ k + 0 ≤ 0 ∧ n + 0 ≤ 0 ∧ WP MX0_isSettled (kx (fun v w' => WP MX1_isSo Q (32, [l0, l1], v.toList ++ st, w', k + 0, n + 0)) (fun E w' => Q (.inr E) w')) (0, [some (.ref p)], [], w, 0, 0)) := csV (As := []) (rest := st) MX0_isSettled rfl dX1_isSo_29 rfl (by decide) (by decide) (Nat.le_of_ble_eq_true rfl) rfl
theorem eX1_isSo_32 : WP MX1_isSo Q (32, [l0, l1], [.int a], w, k, n) = (narrow (.boolean) (.int a) = .int a ∧ k ≤ 0 ∧ n ≤ 0 ∧ Q (.inl (some (.int a))) w) := iret_e rfl dX1_isSo_32 rfl
theorem eX1_isSo_33 : WP MX1_isSo Q (33, [some (.ref p), l1], st, w, k, n) = WP MX1_isSo Q (34, [some (.ref p), l1], .ref p :: st, w, k, n) := Eq.trans (WP_at (M := MX1_isSo) rfl dX1_isSo_33 (Or.inr rfl)) rfl
theorem eX1_isSo_33N : WP MX1_isSo Q (33, [some .null, l1], st, w, k, n) = WP MX1_isSo Q (34, [some .null, l1], .null :: st, w, k, n) := Eq.trans (WP_at (M := MX1_isSo) rfl dX1_isSo_33 (Or.inr rfl)) rfl
theorem eX1_isSo_34  : WP MX1_isSo Q (34, [l0, l1], .ref p :: st, w, k, n) = (go w p 4 (fun _ => True) ∧ wt st ≤ 8 ∧ k + 0 ≤ 0 ∧ n + 0 ≤ 0 ∧ WP MX0_fitsSmall (kx (fun v w' => WP MX1_isSo Q (37, [l0, l1], v.toList ++ st, w', k + 0, n + 0)) (fun E w' => Q (.inr E) w')) (0, [some (.ref p)], [], w, 0, 0)) := csV (As := []) (rest := st) MX0_fitsSmall rfl dX1_isSo_34 rfl (by decide) (by decide) (Nat.le_of_ble_eq_true rfl) rfl
theorem eX1_isSo_37 : WP MX1_isSo Q (37, [l0, l1], [.int a], w, k, n) = (narrow (.boolean) (.int a) = .int a ∧ k ≤ 0 ∧ n ≤ 0 ∧ Q (.inl (some (.int a))) w) := iret_e rfl dX1_isSo_37 rfl
theorem eX1_isSo_38 : WP MX1_isSo Q (38, [l0, l1], st, w, k, n) = WP MX1_isSo Q (39, [l0, l1], .int 1 :: st, w, k, n) := iconst_e rfl dX1_isSo_38 (by decide)
theorem eX1_isSo_39 : WP MX1_isSo Q (39, [l0, l1], [.int a], w, k, n) = (narrow (.boolean) (.int a) = .int a ∧ k ≤ 0 ∧ n ≤ 0 ∧ Q (.inl (some (.int a))) w) := iret_e rfl dX1_isSo_39 rfl
end
theorem wk_188 : (.code yX0_isSettled cX0_isSettled 1 (some .boolean) : Jvm.Cond) ∈ WS := WS_at 188 (by decide +kernel) rfl
theorem wk_187 : (.instanceMethod yX0_isSettled : Jvm.Cond) ∈ WS := WS_at 187 (by decide +kernel) rfl
theorem wk_3 : (.selects RX0 yX0_isSettled yX0_isSettled : Jvm.Cond) ∈ WS := WS_at 3 (by decide +kernel) rfl
theorem vMX1_isSo {l : Launch} (hl : l.stackTraces = false) (G : GT) : vM l G MX1_isSo := ⟨fun i c j h => lookup_all (l := MX1_isSo.fld) (P := fun i e => vFld RX1 i e.1 e.2) (all_n) i (c, j) h, fun i c fs h => lookup_all (l := MX1_isSo.new) (P := fun i e => vNew RX1 i e.1 e.2) (all_n) i (c, fs) h, lookup_all (l := MX1_isSo.anew) (P := fun i e => vANew RX1 i e) (all_n), lookup_all (l := MX1_isSo.lng) (P := fun i e => Jvm.Cond.constantLong RX1 i e ∈ WS) (all_n), lookup_all (l := MX1_isSo.thr) (P := fun i e => vThr RX1 cX1_isSo i e) (all_n), fun h => absurd rfl h, lookup_all (l := MX1_isSo.cal) (P := fun i e => vCal l G RX1 i e) (all_c (⟨cX0_isSettled, 1, some .boolean, fun y hy => by subst hy; exact ⟨by decide, wk_188, okX0_isSettled hl, wk_84, ⟨by decide, by decide⟩, ⟨by decide +kernel, ⟨"Rangecard", List.mem_of_getElem? (i := 185) (by decide +kernel)⟩, wk_187, wk_3, (RX0, TX0, 4), rfl, rfl⟩⟩⟩) (all_c (⟨cX0_fitsSmall, 1, some .boolean, fun y hy => by subst hy; exact ⟨by decide, wk_219, okX0_fitsSmall hl, wk_84, ⟨by decide, by decide⟩, ⟨by decide +kernel, ⟨"Rangecard", List.mem_of_getElem? (i := 223) (by decide +kernel)⟩, wk_218, wk_7, (RX0, TX0, 4), rfl, rfl⟩⟩⟩) (all_n)))⟩
theorem okX1_isSo {l : Launch} (hl : l.stackTraces = false) {G : GT} : ∀ (args : List Value) (w : Hw) (S : Ot → Hw → Prop), spOf MX1_isSo args w S → CX l G yX1_isSo (.code yX1_isSo cX1_isSo 2 (some .boolean)) 2 0 0 args w S := CX_sp (M := MX1_isSo) (y := yX1_isSo) hl (by decide) rfl (vMX1_isSo hl G) (fun h => by cases h)
/-! Rangecard.cardsThatAre(I)I -/
theorem dX1_cardsThatAre_0 : decode cX1_cardsThatAre 0 = .ok (.iconst 0, 1) := by decide +kernel
theorem dX1_cardsThatAre_1 : decode cX1_cardsThatAre 1 = .ok (.istore_n 2, 1) := by decide +kernel
theorem dX1_cardsThatAre_2 : decode cX1_cardsThatAre 2 = .ok (.iconst 0, 1) := by decide +kernel
theorem dX1_cardsThatAre_3 : decode cX1_cardsThatAre 3 = .ok (.istore_n 3, 1) := by decide +kernel
theorem dX1_cardsThatAre_4 : decode cX1_cardsThatAre 4 = .ok (.iload_n 3, 1) := by decide +kernel
theorem dX1_cardsThatAre_5 : decode cX1_cardsThatAre 5 = .ok (.bipush 6, 2) := by decide +kernel
theorem dX1_cardsThatAre_7 : decode cX1_cardsThatAre 7 = .ok (.if_icmp .ge 37, 3) := by decide +kernel
theorem dX1_cardsThatAre_10 : decode cX1_cardsThatAre 10 = .ok (.aload_n 0, 1) := by decide +kernel
theorem dX1_cardsThatAre_11 : decode cX1_cardsThatAre 11 = .ok (.getfield 15, 3) := by decide +kernel
theorem dX1_cardsThatAre_14 : decode cX1_cardsThatAre 14 = .ok (.iload_n 3, 1) := by decide +kernel
theorem dX1_cardsThatAre_15 : decode cX1_cardsThatAre 15 = .ok (.aaload, 1) := by decide +kernel
theorem dX1_cardsThatAre_16 : decode cX1_cardsThatAre 16 = .ok (.astore 4, 2) := by decide +kernel
theorem dX1_cardsThatAre_18 : decode cX1_cardsThatAre 18 = .ok (.aload 4, 2) := by decide +kernel
theorem dX1_cardsThatAre_20 : decode cX1_cardsThatAre 20 = .ok (.ifnull 18, 3) := by decide +kernel
theorem dX1_cardsThatAre_23 : decode cX1_cardsThatAre 23 = .ok (.aload 4, 2) := by decide +kernel
theorem dX1_cardsThatAre_25 : decode cX1_cardsThatAre 25 = .ok (.iload_n 1, 1) := by decide +kernel
theorem dX1_cardsThatAre_26 : decode cX1_cardsThatAre 26 = .ok (.invokestatic 281, 3) := by decide +kernel
theorem dX1_cardsThatAre_29 : decode cX1_cardsThatAre 29 = .ok (.ifCond .eq 9, 3) := by decide +kernel
theorem dX1_cardsThatAre_32 : decode cX1_cardsThatAre 32 = .ok (.iload_n 2, 1) := by decide +kernel
theorem dX1_cardsThatAre_33 : decode cX1_cardsThatAre 33 = .ok (.iconst 1, 1) := by decide +kernel
theorem dX1_cardsThatAre_34 : decode cX1_cardsThatAre 34 = .ok (.iload_n 3, 1) := by decide +kernel
theorem dX1_cardsThatAre_35 : decode cX1_cardsThatAre 35 = .ok (.ishl, 1) := by decide +kernel
theorem dX1_cardsThatAre_36 : decode cX1_cardsThatAre 36 = .ok (.iadd, 1) := by decide +kernel
theorem dX1_cardsThatAre_37 : decode cX1_cardsThatAre 37 = .ok (.istore_n 2, 1) := by decide +kernel
theorem dX1_cardsThatAre_38 : decode cX1_cardsThatAre 38 = .ok (.iinc 3 1, 3) := by decide +kernel
theorem dX1_cardsThatAre_41 : decode cX1_cardsThatAre 41 = .ok (.goto (-37), 3) := by decide +kernel
theorem dX1_cardsThatAre_44 : decode cX1_cardsThatAre 44 = .ok (.iload_n 2, 1) := by decide +kernel
theorem dX1_cardsThatAre_45 : decode cX1_cardsThatAre 45 = .ok (.ireturn, 1) := by decide +kernel
def MX1_cardsThatAre : MT := ((RX1, cX1_cardsThatAre, 5, 3, 0, 0, false, some .int), [(15, 5, 1)], [], [], [], [], 0, [(281, 0, 2, 0, 2, 0, 0, yX1_isSo, spOf MX1_isSo)])
section
variable {Q : Ot → Hw → Prop} {st : List Value} {w : Hw} {k n p q : Nat} {a b : Int32} {x y : Int64} {u v : Value} {l0 l1 l2 l3 l4 : Option Value}
theorem eX1_cardsThatAre_0 : WP MX1_cardsThatAre Q (0, [l0, l1, l2, l3, l4], st, w, k, n) = WP MX1_cardsThatAre Q (1, [l0, l1, l2, l3, l4], .int 0 :: st, w, k, n) := iconst_e rfl dX1_cardsThatAre_0 (by decide)
theorem eX1_cardsThatAre_1 : WP MX1_cardsThatAre Q (1, [l0, l1, l2, l3, l4], .int a :: st, w, k, n) = WP MX1_cardsThatAre Q (2, [l0, nl l1, some (.int a), l3, l4], st, w, k, n) := by rw [WP_at (M := MX1_cardsThatAre) rfl dX1_cardsThatAre_1 (Or.inr rfl)]; exact and_t (Nat.le_of_ble_eq_true rfl)
theorem eX1_cardsThatAre_2 : WP MX1_cardsThatAre Q (2, [l0, l1, l2, l3, l4], st, w, k, n) = WP MX1_cardsThatAre Q (3, [l0, l1, l2, l3, l4], .int 0 :: st, w, k, n) := iconst_e rfl dX1_cardsThatAre_2 (by decide)
theorem eX1_cardsThatAre_3 : WP MX1_cardsThatAre Q (3, [l0, l1, l2, l3, l4], .int a :: st, w, k, n) = WP MX1_cardsThatAre Q (4, [l0, l1, nl l2, some (.int a), l4], st, w, k, n) := by rw [WP_at (M := MX1_cardsThatAre) rfl dX1_cardsThatAre_3 (Or.inr rfl)]; exact and_t (Nat.le_of_ble_eq_true rfl)
theorem eX1_cardsThatAre_4 : WP MX1_cardsThatAre Q (4, [l0, l1, l2, some (.int a), l4], st, w, k, n) = WP MX1_cardsThatAre Q (5, [l0, l1, l2, some (.int a), l4], .int a :: st, w, k, n) := Eq.trans (WP_at (M := MX1_cardsThatAre) rfl dX1_cardsThatAre_4 (Or.inr rfl)) rfl
theorem eX1_cardsThatAre_5 : WP MX1_cardsThatAre Q (5, [l0, l1, l2, l3, l4], st, w, k, n) = WP MX1_cardsThatAre Q (7, [l0, l1, l2, l3, l4], .int 6 :: st, w, k, n) := bipush_e rfl dX1_cardsThatAre_5 (by decide)
theorem eX1_cardsThatAre_7 : WP MX1_cardsThatAre Q (7, [l0, l1, l2, l3, l4], .int b :: .int a :: st, w, k, n) = if b ≤ a then WP MX1_cardsThatAre Q (44, [l0, l1, l2, l3, l4], st, w, k, n) else WP MX1_cardsThatAre Q (10, [l0, l1, l2, l3, l4], st, w, k, n) := icm_e (b ≤ a) rfl dX1_cardsThatAre_7 rfl (by decide)
theorem eX1_cardsThatAre_10 : WP MX1_cardsThatAre Q (10, [some (.ref p), l1, l2, l3, l4], st, w, k, n) = WP MX1_cardsThatAre Q (11, [some (.ref p), l1, l2, l3, l4], .ref p :: st, w, k, n) := Eq.trans (WP_at (M := MX1_cardsThatAre) rfl dX1_cardsThatAre_10 (Or.inr rfl)) rfl
theorem eX1_cardsThatAre_10N : WP MX1_cardsThatAre Q (10, [some .null, l1, l2, l3, l4], st, w, k, n) = WP MX1_cardsThatAre Q (11, [some .null, l1, l2, l3, l4], .null :: st, w, k, n) := Eq.trans (WP_at (M := MX1_cardsThatAre) rfl dX1_cardsThatAre_10 (Or.inr rfl)) rfl
theorem eX1_cardsThatAre_11 : WP MX1_cardsThatAre Q (11, [l0, l1, l2, l3, l4], .ref p :: st, w, k, n) = go w p 5 fun fs => ∃ v, fs[1]? = some v ∧ WP MX1_cardsThatAre Q (14, [l0, l1, l2, l3, l4], v :: st, w, k, n) := get_e rfl dX1_cardsThatAre_11 rfl
theorem eX1_cardsThatAre_14 : WP MX1_cardsThatAre Q (14, [l0, l1, l2, some (.int a), l4], st, w, k, n) = WP MX1_cardsThatAre Q (15, [l0, l1, l2, some (.int a), l4], .int a :: st, w, k, n) := Eq.trans (WP_at (M := MX1_cardsThatAre) rfl dX1_cardsThatAre_14 (Or.inr rfl)) rfl
theorem eX1_cardsThatAre_15 : WP MX1_cardsThatAre Q (15, [l0, l1, l2, l3, l4], .int a :: .ref p :: st, w, k, n) = gq w p fun t N f => (t = 4 ∨ t = 5) ∧ vp_in a N ∧ WP MX1_cardsThatAre Q (16, [l0, l1, l2, l3, l4], va_rf (f a.toNatClampNeg) :: st, w, k, n) := Eq.trans (WP_at (M := MX1_cardsThatAre) rfl dX1_cardsThatAre_15 (Or.inr rfl)) rfl
theorem eX1_cardsThatAre_16 : WP MX1_cardsThatAre Q (16, [l0, l1, l2, l3, l4], .ref p :: st, w, k, n) = WP MX1_cardsThatAre Q (18, [l0, l1, l2, nl l3, some (.ref p)], st, w, k, n) := by rw [WP_at (M := MX1_cardsThatAre) rfl dX1_cardsThatAre_16 (Or.inr rfl)]; exact and_t (Nat.le_of_ble_eq_true rfl)
theorem eX1_cardsThatAre_16N : WP MX1_cardsThatAre Q (16, [l0, l1, l2, l3, l4], .null :: st, w, k, n) = WP MX1_cardsThatAre Q (18, [l0, l1, l2, nl l3, some (.null)], st, w, k, n) := by rw [WP_at (M := MX1_cardsThatAre) rfl dX1_cardsThatAre_16 (Or.inr rfl)]; exact and_t (Nat.le_of_ble_eq_true rfl)
theorem eX1_cardsThatAre_18 : WP MX1_cardsThatAre Q (18, [l0, l1, l2, l3, some (.ref p)], st, w, k, n) = WP MX1_cardsThatAre Q (20, [l0, l1, l2, l3, some (.ref p)], .ref p :: st, w, k, n) := Eq.trans (WP_at (M := MX1_cardsThatAre) rfl dX1_cardsThatAre_18 (Or.inr rfl)) rfl
theorem eX1_cardsThatAre_18N : WP MX1_cardsThatAre Q (18, [l0, l1, l2, l3, some .null], st, w, k, n) = WP MX1_cardsThatAre Q (20, [l0, l1, l2, l3, some .null], .null :: st, w, k, n) := Eq.trans (WP_at (M := MX1_cardsThatAre) rfl dX1_cardsThatAre_18 (Or.inr rfl)) rfl
theorem eX1_cardsThatAre_20R : WP MX1_cardsThatAre Q (20, [l0, l1, l2, l3, l4], .ref p :: st, w, k, n) = WP MX1_cardsThatAre Q (23, [l0, l1, l2, l3, l4], st, w, k, n) := ifnullR_e rfl dX1_cardsThatAre_20 (tgt := 38) (by decide)
theorem eX1_cardsThatAre_20N : WP MX1_cardsThatAre Q (20, [l0, l1, l2, l3, l4], .null :: st, w, k, n) = WP MX1_cardsThatAre Q (38, [l0, l1, l2, l3, l4], st, w, k, n) := ifnullN_e rfl dX1_cardsThatAre_20 (tgt := 38) (by decide)
theorem eX1_cardsThatAre_23 : WP MX1_cardsThatAre Q (23, [l0, l1, l2, l3, some (.ref p)], st, w, k, n) = WP MX1_cardsThatAre Q (25, [l0, l1, l2, l3, some (.ref p)], .ref p :: st, w, k, n) := Eq.trans (WP_at (M := MX1_cardsThatAre) rfl dX1_cardsThatAre_23 (Or.inr rfl)) rfl
theorem eX1_cardsThatAre_23N : WP MX1_cardsThatAre Q (23, [l0, l1, l2, l3, some .null], st, w, k, n) = WP MX1_cardsThatAre Q (25, [l0, l1, l2, l3, some .null], .null :: st, w, k, n) := Eq.trans (WP_at (M := MX1_cardsThatAre) rfl dX1_cardsThatAre_23 (Or.inr rfl)) rfl
theorem eX1_cardsThatAre_25 : WP MX1_cardsThatAre Q (25, [l0, some (.int a), l2, l3, l4], st, w, k, n) = WP MX1_cardsThatAre Q (26, [l0, some (.int a), l2, l3, l4], .int a :: st, w, k, n) := Eq.trans (WP_at (M := MX1_cardsThatAre) rfl dX1_cardsThatAre_25 (Or.inr rfl)) rfl
theorem eX1_cardsThatAre_26R {z0 : Nat} {z1 : Int32} : WP MX1_cardsThatAre Q (26, [l0, l1, l2, l3, l4], .int z1 :: .ref z0 :: st, w, k, n) = (wt st ≤ 8 ∧ k + 0 ≤ 0 ∧ n + 0 ≤ 0 ∧ WP MX1_isSo (kx (fun v w' => WP MX1_cardsThatAre Q (29, [l0, l1, l2, l3, l4], v.toList ++ st, w', k + 0, n + 0)) (fun E w' => Q (.inr E) w')) (0, [some (.ref z0), some (.int z1)], [], w, 0, 0)) := csS (As := [.ref z0, .int z1]) (rest := st) MX1_isSo rfl dX1_cardsThatAre_26 rfl (by decide) (by decide) (Nat.le_of_ble_eq_true rfl) rfl
theorem eX1_cardsThatAre_26N {z1 : Int32} : WP MX1_cardsThatAre Q (26, [l0, l1, l2, l3, l4], .int z1 :: .null :: st, w, k, n) = (wt st ≤ 8 ∧ k + 0 ≤ 0 ∧ n + 0 ≤ 0 ∧ WP MX1_isSo (kx (fun v w' => WP MX1_cardsThatAre Q (29, [l0, l1, l2, l3, l4], v.toList ++ st, w', k + 0, n + 0)) (fun E w' => Q (.inr E) w')) (0, [some .null, some (.int z1)], [], w, 0, 0)) := csS (As := [.null, .int z1]) (rest := st) MX1_isSo rfl dX1_cardsThatAre_26 rfl (by decide) (by decide) (Nat.le_of_ble_eq_true rfl) rfl
theorem eX1_cardsThatAre_29 : WP MX1_cardsThatAre Q (29, [l0, l1, l2, l3, l4], .int a :: st, w, k, n) = if a = 0 then WP MX1_cardsThatAre Q (38, [l0, l1, l2, l3, l4], st, w, k, n) else WP MX1_cardsThatAre Q (32, [l0, l1, l2, l3, l4], st, w, k, n) := ifc_e (a = 0) rfl dX1_cardsThatAre_29 rfl (by decide)
theorem eX1_cardsThatAre_32 : WP MX1_cardsThatAre Q (32, [l0, l1, some (.int a), l3, l4], st, w, k, n) = WP MX1_cardsThatAre Q (33, [l0, l1, some (.int a), l3, l4], .int a :: st, w, k, n) := Eq.trans (WP_at (M := MX1_cardsThatAre) rfl dX1_cardsThatAre_32 (Or.inr rfl)) rfl
theorem eX1_cardsThatAre_33 : WP MX1_cardsThatAre Q (33, [l0, l1, l2, l3, l4], st, w, k, n) = WP MX1_cardsThatAre Q (34, [l0, l1, l2, l3, l4], .int 1 :: st, w, k, n) := iconst_e rfl dX1_cardsThatAre_33 (by decide)
theorem eX1_cardsThatAre_34 : WP MX1_cardsThatAre Q (34, [l0, l1, l2, some (.int a), l4], st, w, k, n) = WP MX1_cardsThatAre Q (35, [l0, l1, l2, some (.int a), l4], .int a :: st, w, k, n) := Eq.trans (WP_at (M := MX1_cardsThatAre) rfl dX1_cardsThatAre_34 (Or.inr rfl)) rfl
theorem eX1_cardsThatAre_35 : WP MX1_cardsThatAre Q (35, [l0, l1, l2, l3, l4], .int b :: .int a :: st, w, k, n) = WP MX1_cardsThatAre Q (36, [l0, l1, l2, l3, l4], .int (a <<< (b &&& 31)) :: st, w, k, n) := Eq.trans (WP_at (M := MX1_cardsThatAre) rfl dX1_cardsThatAre_35 (Or.inr rfl)) rfl
theorem eX1_cardsThatAre_36 : WP MX1_cardsThatAre Q (36, [l0, l1, l2, l3, l4], .int b :: .int a :: st, w, k, n) = WP MX1_cardsThatAre Q (37, [l0, l1, l2, l3, l4], .int (a + b) :: st, w, k, n) := Eq.trans (WP_at (M := MX1_cardsThatAre) rfl dX1_cardsThatAre_36 (Or.inr rfl)) rfl
theorem eX1_cardsThatAre_37 : WP MX1_cardsThatAre Q (37, [l0, l1, l2, l3, l4], .int a :: st, w, k, n) = WP MX1_cardsThatAre Q (38, [l0, nl l1, some (.int a), l3, l4], st, w, k, n) := by rw [WP_at (M := MX1_cardsThatAre) rfl dX1_cardsThatAre_37 (Or.inr rfl)]; exact and_t (Nat.le_of_ble_eq_true rfl)
theorem eX1_cardsThatAre_38 : WP MX1_cardsThatAre Q (38, [l0, l1, l2, some (.int a), l4], st, w, k, n) = WP MX1_cardsThatAre Q (41, [l0, l1, nl l2, some (.int (a + 1)), l4], st, w, k, n) := Eq.trans (iinc_e (M := MX1_cardsThatAre) (L := [l0, l1, l2, some (.int a), l4]) (d := 1) rfl dX1_cardsThatAre_38 (by decide) rfl) rfl
theorem eX1_cardsThatAre_41 : WP MX1_cardsThatAre Q (41, [l0, l1, l2, l3, l4], st, w, k, n) = WP MX1_cardsThatAre Q (4, [l0, l1, l2, l3, l4], st, w, k, n) := goto_e rfl dX1_cardsThatAre_41 (by decide)
theorem eX1_cardsThatAre_44 : WP MX1_cardsThatAre Q (44, [l0, l1, some (.int a), l3, l4], st, w, k, n) = WP MX1_cardsThatAre Q (45, [l0, l1, some (.int a), l3, l4], .int a :: st, w, k, n) := Eq.trans (WP_at (M := MX1_cardsThatAre) rfl dX1_cardsThatAre_44 (Or.inr rfl)) rfl
theorem eX1_cardsThatAre_45 : WP MX1_cardsThatAre Q (45, [l0, l1, l2, l3, l4], [.int a], w, k, n) = (k ≤ 0 ∧ n ≤ 0 ∧ Q (.inl (some (.int a))) w) := (iret_e rfl dX1_cardsThatAre_45 rfl).trans (and_t rfl)
end
theorem wk_322 : (.code yX1_isSo cX1_isSo 2 (some .boolean) : Jvm.Cond) ∈ WS := WS_at 322 (by decide +kernel) rfl
theorem wk_320 : (.methodLink RX1 281 yX1_isSo : Jvm.Cond) ∈ WS := WS_at 320 (by decide +kernel) rfl
theorem wk_321 : (.static yX1_isSo : Jvm.Cond) ∈ WS := WS_at 321 (by decide +kernel) rfl
theorem vMX1_cardsThatAre {l : Launch} (hl : l.stackTraces = false) (G : GT) : vM l G MX1_cardsThatAre := ⟨fun i c j h => lookup_all (l := MX1_cardsThatAre.fld) (P := fun i e => vFld RX1 i e.1 e.2) (all_c (vF_RX1_15) (all_n)) i (c, j) h, fun i c fs h => lookup_all (l := MX1_cardsThatAre.new) (P := fun i e => vNew RX1 i e.1 e.2) (all_n) i (c, fs) h, lookup_all (l := MX1_cardsThatAre.anew) (P := fun i e => vANew RX1 i e) (all_n), lookup_all (l := MX1_cardsThatAre.lng) (P := fun i e => Jvm.Cond.constantLong RX1 i e ∈ WS) (all_n), lookup_all (l := MX1_cardsThatAre.thr) (P := fun i e => vThr RX1 cX1_cardsThatAre i e) (all_n), fun h => absurd rfl h, lookup_all (l := MX1_cardsThatAre.cal) (P := fun i e => vCal l G RX1 i e) (all_c (⟨cX1_isSo, 2, some .boolean, fun y hy => by subst hy; exact ⟨by decide, wk_322, okX1_isSo hl, wk_59, ⟨by decide, by decide⟩, ⟨by decide +kernel, wk_320, wk_321⟩⟩⟩) (all_n))⟩
theorem okX1_cardsThatAre {l : Launch} (hl : l.stackTraces = false) {G : GT} : ∀ (args : List Value) (w : Hw) (S : Ot → Hw → Prop), spOf MX1_cardsThatAre args w S → CX l G yX1_cardsThatAre (.code yX1_cardsThatAre cX1_cardsThatAre 5 (some .int)) 3 0 0 args w S := CX_sp (M := MX1_cardsThatAre) (y := yX1_cardsThatAre) hl (by decide) rfl (vMX1_cardsThatAre hl G) (fun h => by cases h)
/-! Rangecard.cardsLike(LRangecard$Range;)I -/
theorem dX1_cardsLike_0 : decode cX1_cardsLike 0 = .ok (.iconst 0, 1) := by decide +kernel
theorem dX1_cardsLike_1 : decode cX1_cardsLike 1 = .ok (.istore_n 2, 1) := by decide +kernel
theorem dX1_cardsLike_2 : decode cX1_cardsLike 2 = .ok (.iconst 0, 1) := by decide +kernel
theorem dX1_cardsLike_3 : decode cX1_cardsLike 3 = .ok (.istore_n 3, 1) := by decide +kernel
theorem dX1_cardsLike_4 : decode cX1_cardsLike 4 = .ok (.iload_n 3, 1) := by decide +kernel
theorem dX1_cardsLike_5 : decode cX1_cardsLike 5 = .ok (.bipush 6, 2) := by decide +kernel
theorem dX1_cardsLike_7 : decode cX1_cardsLike 7 = .ok (.if_icmp .ge 50, 3) := by decide +kernel
theorem dX1_cardsLike_10 : decode cX1_cardsLike 10 = .ok (.aload_n 0, 1) := by decide +kernel
theorem dX1_cardsLike_11 : decode cX1_cardsLike 11 = .ok (.getfield 15, 3) := by decide +kernel
theorem dX1_cardsLike_14 : decode cX1_cardsLike 14 = .ok (.iload_n 3, 1) := by decide +kernel
theorem dX1_cardsLike_15 : decode cX1_cardsLike 15 = .ok (.aaload, 1) := by decide +kernel
theorem dX1_cardsLike_16 : decode cX1_cardsLike 16 = .ok (.astore 4, 2) := by decide +kernel
theorem dX1_cardsLike_18 : decode cX1_cardsLike 18 = .ok (.aload 4, 2) := by decide +kernel
theorem dX1_cardsLike_20 : decode cX1_cardsLike 20 = .ok (.ifnull 31, 3) := by decide +kernel
theorem dX1_cardsLike_23 : decode cX1_cardsLike 23 = .ok (.aload_n 1, 1) := by decide +kernel
theorem dX1_cardsLike_24 : decode cX1_cardsLike 24 = .ok (.aload 4, 2) := by decide +kernel
theorem dX1_cardsLike_26 : decode cX1_cardsLike 26 = .ok (.invokevirtual 110, 3) := by decide +kernel
theorem dX1_cardsLike_29 : decode cX1_cardsLike 29 = .ok (.ifCond .eq 22, 3) := by decide +kernel
theorem dX1_cardsLike_32 : decode cX1_cardsLike 32 = .ok (.aload_n 1, 1) := by decide +kernel
theorem dX1_cardsLike_33 : decode cX1_cardsLike 33 = .ok (.invokevirtual 285, 3) := by decide +kernel
theorem dX1_cardsLike_36 : decode cX1_cardsLike 36 = .ok (.aload 4, 2) := by decide +kernel
theorem dX1_cardsLike_38 : decode cX1_cardsLike 38 = .ok (.invokevirtual 285, 3) := by decide +kernel
theorem dX1_cardsLike_41 : decode cX1_cardsLike 41 = .ok (.lcmp, 1) := by decide +kernel
theorem dX1_cardsLike_42 : decode cX1_cardsLike 42 = .ok (.ifCond .ne 9, 3) := by decide +kernel
theorem dX1_cardsLike_45 : decode cX1_cardsLike 45 = .ok (.iload_n 2, 1) := by decide +kernel
theorem dX1_cardsLike_46 : decode cX1_cardsLike 46 = .ok (.iconst 1, 1) := by decide +kernel
theorem dX1_cardsLike_47 : decode cX1_cardsLike 47 = .ok (.iload_n 3, 1) := by decide +kernel
theorem dX1_cardsLike_48 : decode cX1_cardsLike 48 = .ok (.ishl, 1) := by decide +kernel
theorem dX1_cardsLike_49 : decode cX1_cardsLike 49 = .ok (.iadd, 1) := by decide +kernel
theorem dX1_cardsLike_50 : decode cX1_cardsLike 50 = .ok (.istore_n 2, 1) := by decide +kernel
theorem dX1_cardsLike_51 : decode cX1_cardsLike 51 = .ok (.iinc 3 1, 3) := by decide +kernel
theorem dX1_cardsLike_54 : decode cX1_cardsLike 54 = .ok (.goto (-50), 3) := by decide +kernel
theorem dX1_cardsLike_57 : decode cX1_cardsLike 57 = .ok (.iload_n 2, 1) := by decide +kernel
theorem dX1_cardsLike_58 : decode cX1_cardsLike 58 = .ok (.ireturn, 1) := by decide +kernel
def MX1_cardsLike : MT := ((RX1, cX1_cardsLike, 5, 2, 0, 0, false, some .int), [(15, 5, 1)], [], [], [], [], 0, [(110, 3, 2, 4, 1, 0, 0, yX0_matches, spOf MX0_matches), (285, 3, 1, 4, 1, 0, 0, yX0_hash, spOf MX0_hash)])
section
variable {Q : Ot → Hw → Prop} {st : List Value} {w : Hw} {k n p q : Nat} {a b : Int32} {x y : Int64} {u v : Value} {l0 l1 l2 l3 l4 : Option Value}
theorem eX1_cardsLike_0 : WP MX1_cardsLike Q (0, [l0, l1, l2, l3, l4], st, w, k, n) = WP MX1_cardsLike Q (1, [l0, l1, l2, l3, l4], .int 0 :: st, w, k, n) := iconst_e rfl dX1_cardsLike_0 (by decide)
theorem eX1_cardsLike_1 : WP MX1_cardsLike Q (1, [l0, l1, l2, l3, l4], .int a :: st, w, k, n) = WP MX1_cardsLike Q (2, [l0, nl l1, some (.int a), l3, l4], st, w, k, n) := by rw [WP_at (M := MX1_cardsLike) rfl dX1_cardsLike_1 (Or.inr rfl)]; exact and_t (Nat.le_of_ble_eq_true rfl)
theorem eX1_cardsLike_2 : WP MX1_cardsLike Q (2, [l0, l1, l2, l3, l4], st, w, k, n) = WP MX1_cardsLike Q (3, [l0, l1, l2, l3, l4], .int 0 :: st, w, k, n) := iconst_e rfl dX1_cardsLike_2 (by decide)
theorem eX1_cardsLike_3 : WP MX1_cardsLike Q (3, [l0, l1, l2, l3, l4], .int a :: st, w, k, n) = WP MX1_cardsLike Q (4, [l0, l1, nl l2, some (.int a), l4], st, w, k, n) := by rw [WP_at (M := MX1_cardsLike) rfl dX1_cardsLike_3 (Or.inr rfl)]; exact and_t (Nat.le_of_ble_eq_true rfl)
theorem eX1_cardsLike_4 : WP MX1_cardsLike Q (4, [l0, l1, l2, some (.int a), l4], st, w, k, n) = WP MX1_cardsLike Q (5, [l0, l1, l2, some (.int a), l4], .int a :: st, w, k, n) := Eq.trans (WP_at (M := MX1_cardsLike) rfl dX1_cardsLike_4 (Or.inr rfl)) rfl
theorem eX1_cardsLike_5 : WP MX1_cardsLike Q (5, [l0, l1, l2, l3, l4], st, w, k, n) = WP MX1_cardsLike Q (7, [l0, l1, l2, l3, l4], .int 6 :: st, w, k, n) := bipush_e rfl dX1_cardsLike_5 (by decide)
theorem eX1_cardsLike_7 : WP MX1_cardsLike Q (7, [l0, l1, l2, l3, l4], .int b :: .int a :: st, w, k, n) = if b ≤ a then WP MX1_cardsLike Q (57, [l0, l1, l2, l3, l4], st, w, k, n) else WP MX1_cardsLike Q (10, [l0, l1, l2, l3, l4], st, w, k, n) := icm_e (b ≤ a) rfl dX1_cardsLike_7 rfl (by decide)
theorem eX1_cardsLike_10 : WP MX1_cardsLike Q (10, [some (.ref p), l1, l2, l3, l4], st, w, k, n) = WP MX1_cardsLike Q (11, [some (.ref p), l1, l2, l3, l4], .ref p :: st, w, k, n) := Eq.trans (WP_at (M := MX1_cardsLike) rfl dX1_cardsLike_10 (Or.inr rfl)) rfl
theorem eX1_cardsLike_10N : WP MX1_cardsLike Q (10, [some .null, l1, l2, l3, l4], st, w, k, n) = WP MX1_cardsLike Q (11, [some .null, l1, l2, l3, l4], .null :: st, w, k, n) := Eq.trans (WP_at (M := MX1_cardsLike) rfl dX1_cardsLike_10 (Or.inr rfl)) rfl
theorem eX1_cardsLike_11 : WP MX1_cardsLike Q (11, [l0, l1, l2, l3, l4], .ref p :: st, w, k, n) = go w p 5 fun fs => ∃ v, fs[1]? = some v ∧ WP MX1_cardsLike Q (14, [l0, l1, l2, l3, l4], v :: st, w, k, n) := get_e rfl dX1_cardsLike_11 rfl
theorem eX1_cardsLike_14 : WP MX1_cardsLike Q (14, [l0, l1, l2, some (.int a), l4], st, w, k, n) = WP MX1_cardsLike Q (15, [l0, l1, l2, some (.int a), l4], .int a :: st, w, k, n) := Eq.trans (WP_at (M := MX1_cardsLike) rfl dX1_cardsLike_14 (Or.inr rfl)) rfl
theorem eX1_cardsLike_15 : WP MX1_cardsLike Q (15, [l0, l1, l2, l3, l4], .int a :: .ref p :: st, w, k, n) = gq w p fun t N f => (t = 4 ∨ t = 5) ∧ vp_in a N ∧ WP MX1_cardsLike Q (16, [l0, l1, l2, l3, l4], va_rf (f a.toNatClampNeg) :: st, w, k, n) := Eq.trans (WP_at (M := MX1_cardsLike) rfl dX1_cardsLike_15 (Or.inr rfl)) rfl
theorem eX1_cardsLike_16 : WP MX1_cardsLike Q (16, [l0, l1, l2, l3, l4], .ref p :: st, w, k, n) = WP MX1_cardsLike Q (18, [l0, l1, l2, nl l3, some (.ref p)], st, w, k, n) := by rw [WP_at (M := MX1_cardsLike) rfl dX1_cardsLike_16 (Or.inr rfl)]; exact and_t (Nat.le_of_ble_eq_true rfl)
theorem eX1_cardsLike_16N : WP MX1_cardsLike Q (16, [l0, l1, l2, l3, l4], .null :: st, w, k, n) = WP MX1_cardsLike Q (18, [l0, l1, l2, nl l3, some (.null)], st, w, k, n) := by rw [WP_at (M := MX1_cardsLike) rfl dX1_cardsLike_16 (Or.inr rfl)]; exact and_t (Nat.le_of_ble_eq_true rfl)
theorem eX1_cardsLike_18 : WP MX1_cardsLike Q (18, [l0, l1, l2, l3, some (.ref p)], st, w, k, n) = WP MX1_cardsLike Q (20, [l0, l1, l2, l3, some (.ref p)], .ref p :: st, w, k, n) := Eq.trans (WP_at (M := MX1_cardsLike) rfl dX1_cardsLike_18 (Or.inr rfl)) rfl
theorem eX1_cardsLike_18N : WP MX1_cardsLike Q (18, [l0, l1, l2, l3, some .null], st, w, k, n) = WP MX1_cardsLike Q (20, [l0, l1, l2, l3, some .null], .null :: st, w, k, n) := Eq.trans (WP_at (M := MX1_cardsLike) rfl dX1_cardsLike_18 (Or.inr rfl)) rfl
theorem eX1_cardsLike_20R : WP MX1_cardsLike Q (20, [l0, l1, l2, l3, l4], .ref p :: st, w, k, n) = WP MX1_cardsLike Q (23, [l0, l1, l2, l3, l4], st, w, k, n) := ifnullR_e rfl dX1_cardsLike_20 (tgt := 51) (by decide)
theorem eX1_cardsLike_20N : WP MX1_cardsLike Q (20, [l0, l1, l2, l3, l4], .null :: st, w, k, n) = WP MX1_cardsLike Q (51, [l0, l1, l2, l3, l4], st, w, k, n) := ifnullN_e rfl dX1_cardsLike_20 (tgt := 51) (by decide)
theorem eX1_cardsLike_23 : WP MX1_cardsLike Q (23, [l0, some (.ref p), l2, l3, l4], st, w, k, n) = WP MX1_cardsLike Q (24, [l0, some (.ref p), l2, l3, l4], .ref p :: st, w, k, n) := Eq.trans (WP_at (M := MX1_cardsLike) rfl dX1_cardsLike_23 (Or.inr rfl)) rfl
theorem eX1_cardsLike_23N : WP MX1_cardsLike Q (23, [l0, some .null, l2, l3, l4], st, w, k, n) = WP MX1_cardsLike Q (24, [l0, some .null, l2, l3, l4], .null :: st, w, k, n) := Eq.trans (WP_at (M := MX1_cardsLike) rfl dX1_cardsLike_23 (Or.inr rfl)) rfl
theorem eX1_cardsLike_24 : WP MX1_cardsLike Q (24, [l0, l1, l2, l3, some (.ref p)], st, w, k, n) = WP MX1_cardsLike Q (26, [l0, l1, l2, l3, some (.ref p)], .ref p :: st, w, k, n) := Eq.trans (WP_at (M := MX1_cardsLike) rfl dX1_cardsLike_24 (Or.inr rfl)) rfl
theorem eX1_cardsLike_24N : WP MX1_cardsLike Q (24, [l0, l1, l2, l3, some .null], st, w, k, n) = WP MX1_cardsLike Q (26, [l0, l1, l2, l3, some .null], .null :: st, w, k, n) := Eq.trans (WP_at (M := MX1_cardsLike) rfl dX1_cardsLike_24 (Or.inr rfl)) rfl
theorem eX1_cardsLike_26R {z0 : Nat} : WP MX1_cardsLike Q (26, [l0, l1, l2, l3, l4], .ref z0 :: .ref p :: st, w, k, n) = (go w p 4 (fun _ => True) ∧ wt st ≤ 8 ∧ k + 0 ≤ 0 ∧ n + 0 ≤ 0 ∧ WP MX0_matches (kx (fun v w' => WP MX1_cardsLike Q (29, [l0, l1, l2, l3, l4], v.toList ++ st, w', k + 0, n + 0)) (fun E w' => Q (.inr E) w')) (0, [some (.ref p), some (.ref z0)], [], w, 0, 0)) := csV (As := [.ref z0]) (rest := st) MX0_matches rfl dX1_cardsLike_26 rfl (by decide) (by decide) (Nat.le_of_ble_eq_true rfl) rfl
theorem eX1_cardsLike_26N  : WP MX1_cardsLike Q (26, [l0, l1, l2, l3, l4], .null :: .ref p :: st, w, k, n) = (go w p 4 (fun _ => True) ∧ wt st ≤ 8 ∧ k + 0 ≤ 0 ∧ n + 0 ≤ 0 ∧ WP MX0_matches (kx (fun v w' => WP MX1_cardsLike Q (29, [l0, l1, l2, l3, l4], v.toList ++ st, w', k + 0, n + 0)) (fun E w' => Q (.inr E) w')) (0, [some (.ref p), some .null], [], w, 0, 0)) := csV (As := [.null]) (rest := st) MX0_matches rfl dX1_cardsLike_26 rfl (by decide) (by decide) (Nat.le_of_ble_eq_true rfl) rfl
theorem eX1_cardsLike_29 : WP MX1_cardsLike Q (29, [l0, l1, l2, l3, l4], .int a :: st, w, k, n) = if a = 0 then WP MX1_cardsLike Q (51, [l0, l1, l2, l3, l4], st, w, k, n) else WP MX1_cardsLike Q (32, [l0, l1, l2, l3, l4], st, w, k, n) := ifc_e (a = 0) rfl dX1_cardsLike_29 rfl (by decide)
theorem eX1_cardsLike_32 : WP MX1_cardsLike Q (32, [l0, some (.ref p), l2, l3, l4], st, w, k, n) = WP MX1_cardsLike Q (33, [l0, some (.ref p), l2, l3, l4], .ref p :: st, w, k, n) := Eq.trans (WP_at (M := MX1_cardsLike) rfl dX1_cardsLike_32 (Or.inr rfl)) rfl
theorem eX1_cardsLike_32N : WP MX1_cardsLike Q (32, [l0, some .null, l2, l3, l4], st, w, k, n) = WP MX1_cardsLike Q (33, [l0, some .null, l2, l3, l4], .null :: st, w, k, n) := Eq.trans (WP_at (M := MX1_cardsLike) rfl dX1_cardsLike_32 (Or.inr rfl)) rfl
theorem eX1_cardsLike_33  : WP MX1_cardsLike Q (33, [l0, l1, l2, l3, l4], .ref p :: st, w, k, n) = (go w p 4 (fun _ => True) ∧ wt st ≤ 8 ∧ k + 0 ≤ 0 ∧ n + 0 ≤ 0 ∧ WP MX0_hash (kx (fun v w' => WP MX1_cardsLike Q (36, [l0, l1, l2, l3, l4], v.toList ++ st, w', k + 0, n + 0)) (fun E w' => Q (.inr E) w')) (0, [some (.ref p), none, none], [], w, 0, 0)) := csV (As := []) (rest := st) MX0_hash rfl dX1_cardsLike_33 rfl (by decide) (by decide) (Nat.le_of_ble_eq_true rfl) rfl
theorem eX1_cardsLike_36 : WP MX1_cardsLike Q (36, [l0, l1, l2, l3, some (.ref p)], st, w, k, n) = WP MX1_cardsLike Q (38, [l0, l1, l2, l3, some (.ref p)], .ref p :: st, w, k, n) := Eq.trans (WP_at (M := MX1_cardsLike) rfl dX1_cardsLike_36 (Or.inr rfl)) rfl
theorem eX1_cardsLike_36N : WP MX1_cardsLike Q (36, [l0, l1, l2, l3, some .null], st, w, k, n) = WP MX1_cardsLike Q (38, [l0, l1, l2, l3, some .null], .null :: st, w, k, n) := Eq.trans (WP_at (M := MX1_cardsLike) rfl dX1_cardsLike_36 (Or.inr rfl)) rfl
theorem eX1_cardsLike_38  : WP MX1_cardsLike Q (38, [l0, l1, l2, l3, l4], .ref p :: st, w, k, n) = (go w p 4 (fun _ => True) ∧ wt st ≤ 8 ∧ k + 0 ≤ 0 ∧ n + 0 ≤ 0 ∧ WP MX0_hash (kx (fun v w' => WP MX1_cardsLike Q (41, [l0, l1, l2, l3, l4], v.toList ++ st, w', k + 0, n + 0)) (fun E w' => Q (.inr E) w')) (0, [some (.ref p), none, none], [], w, 0, 0)) := csV (As := []) (rest := st) MX0_hash rfl dX1_cardsLike_38 rfl (by decide) (by decide) (Nat.le_of_ble_eq_true rfl) rfl
theorem eX1_cardsLike_41 : WP MX1_cardsLike Q (41, [l0, l1, l2, l3, l4], .long y :: .long x :: st, w, k, n) = WP MX1_cardsLike Q (42, [l0, l1, l2, l3, l4], .int (lg_cmp x y) :: st, w, k, n) := Eq.trans (WP_at (M := MX1_cardsLike) rfl dX1_cardsLike_41 (Or.inr rfl)) rfl
theorem eX1_cardsLike_42 : WP MX1_cardsLike Q (42, [l0, l1, l2, l3, l4], .int a :: st, w, k, n) = if a = 0 then WP MX1_cardsLike Q (45, [l0, l1, l2, l3, l4], st, w, k, n) else WP MX1_cardsLike Q (51, [l0, l1, l2, l3, l4], st, w, k, n) := ifcn_e (a = 0) rfl dX1_cardsLike_42 rfl (by decide)
theorem eX1_cardsLike_45 : WP MX1_cardsLike Q (45, [l0, l1, some (.int a), l3, l4], st, w, k, n) = WP MX1_cardsLike Q (46, [l0, l1, some (.int a), l3, l4], .int a :: st, w, k, n) := Eq.trans (WP_at (M := MX1_cardsLike) rfl dX1_cardsLike_45 (Or.inr rfl)) rfl
theorem eX1_cardsLike_46 : WP MX1_cardsLike Q (46, [l0, l1, l2, l3, l4], st, w, k, n) = WP MX1_cardsLike Q (47, [l0, l1, l2, l3, l4], .int 1 :: st, w, k, n) := iconst_e rfl dX1_cardsLike_46 (by decide)
theorem eX1_cardsLike_47 : WP MX1_cardsLike Q (47, [l0, l1, l2, some (.int a), l4], st, w, k, n) = WP MX1_cardsLike Q (48, [l0, l1, l2, some (.int a), l4], .int a :: st, w, k, n) := Eq.trans (WP_at (M := MX1_cardsLike) rfl dX1_cardsLike_47 (Or.inr rfl)) rfl
theorem eX1_cardsLike_48 : WP MX1_cardsLike Q (48, [l0, l1, l2, l3, l4], .int b :: .int a :: st, w, k, n) = WP MX1_cardsLike Q (49, [l0, l1, l2, l3, l4], .int (a <<< (b &&& 31)) :: st, w, k, n) := Eq.trans (WP_at (M := MX1_cardsLike) rfl dX1_cardsLike_48 (Or.inr rfl)) rfl
theorem eX1_cardsLike_49 : WP MX1_cardsLike Q (49, [l0, l1, l2, l3, l4], .int b :: .int a :: st, w, k, n) = WP MX1_cardsLike Q (50, [l0, l1, l2, l3, l4], .int (a + b) :: st, w, k, n) := Eq.trans (WP_at (M := MX1_cardsLike) rfl dX1_cardsLike_49 (Or.inr rfl)) rfl
theorem eX1_cardsLike_50 : WP MX1_cardsLike Q (50, [l0, l1, l2, l3, l4], .int a :: st, w, k, n) = WP MX1_cardsLike Q (51, [l0, nl l1, some (.int a), l3, l4], st, w, k, n) := by rw [WP_at (M := MX1_cardsLike) rfl dX1_cardsLike_50 (Or.inr rfl)]; exact and_t (Nat.le_of_ble_eq_true rfl)
theorem eX1_cardsLike_51 : WP MX1_cardsLike Q (51, [l0, l1, l2, some (.int a), l4], st, w, k, n) = WP MX1_cardsLike Q (54, [l0, l1, nl l2, some (.int (a + 1)), l4], st, w, k, n) := Eq.trans (iinc_e (M := MX1_cardsLike) (L := [l0, l1, l2, some (.int a), l4]) (d := 1) rfl dX1_cardsLike_51 (by decide) rfl) rfl
theorem eX1_cardsLike_54 : WP MX1_cardsLike Q (54, [l0, l1, l2, l3, l4], st, w, k, n) = WP MX1_cardsLike Q (4, [l0, l1, l2, l3, l4], st, w, k, n) := goto_e rfl dX1_cardsLike_54 (by decide)
theorem eX1_cardsLike_57 : WP MX1_cardsLike Q (57, [l0, l1, some (.int a), l3, l4], st, w, k, n) = WP MX1_cardsLike Q (58, [l0, l1, some (.int a), l3, l4], .int a :: st, w, k, n) := Eq.trans (WP_at (M := MX1_cardsLike) rfl dX1_cardsLike_57 (Or.inr rfl)) rfl
theorem eX1_cardsLike_58 : WP MX1_cardsLike Q (58, [l0, l1, l2, l3, l4], [.int a], w, k, n) = (k ≤ 0 ∧ n ≤ 0 ∧ Q (.inl (some (.int a))) w) := (iret_e rfl dX1_cardsLike_58 rfl).trans (and_t rfl)
end
theorem wk_179 : (.code yX0_matches cX0_matches 2 (some .boolean) : Jvm.Cond) ∈ WS := WS_at 179 (by decide +kernel) rfl
theorem wk_178 : (.instanceMethod yX0_matches : Jvm.Cond) ∈ WS := WS_at 178 (by decide +kernel) rfl
theorem wk_1 : (.selects RX0 yX0_matches yX0_matches : Jvm.Cond) ∈ WS := WS_at 1 (by decide +kernel) rfl
theorem wk_183 : (.code yX0_hash cX0_hash 3 (some .long) : Jvm.Cond) ∈ WS := WS_at 183 (by decide +kernel) rfl
theorem wk_182 : (.instanceMethod yX0_hash : Jvm.Cond) ∈ WS := WS_at 182 (by decide +kernel) rfl
theorem wk_2 : (.selects RX0 yX0_hash yX0_hash : Jvm.Cond) ∈ WS := WS_at 2 (by decide +kernel) rfl
theorem vMX1_cardsLike {l : Launch} (hl : l.stackTraces = false) (G : GT) : vM l G MX1_cardsLike := ⟨fun i c j h => lookup_all (l := MX1_cardsLike.fld) (P := fun i e => vFld RX1 i e.1 e.2) (all_c (vF_RX1_15) (all_n)) i (c, j) h, fun i c fs h => lookup_all (l := MX1_cardsLike.new) (P := fun i e => vNew RX1 i e.1 e.2) (all_n) i (c, fs) h, lookup_all (l := MX1_cardsLike.anew) (P := fun i e => vANew RX1 i e) (all_n), lookup_all (l := MX1_cardsLike.lng) (P := fun i e => Jvm.Cond.constantLong RX1 i e ∈ WS) (all_n), lookup_all (l := MX1_cardsLike.thr) (P := fun i e => vThr RX1 cX1_cardsLike i e) (all_n), fun h => absurd rfl h, lookup_all (l := MX1_cardsLike.cal) (P := fun i e => vCal l G RX1 i e) (all_c (⟨cX0_matches, 2, some .boolean, fun y hy => by subst hy; exact ⟨by decide, wk_179, okX0_matches hl, wk_84, ⟨by decide, by decide⟩, ⟨by decide +kernel, ⟨"Rangecard", List.mem_of_getElem? (i := 176) (by decide +kernel)⟩, wk_178, wk_1, (RX0, TX0, 4), rfl, rfl⟩⟩⟩) (all_c (⟨cX0_hash, 3, some .long, fun y hy => by subst hy; exact ⟨by decide, wk_183, okX0_hash hl, wk_84, ⟨by decide, by decide⟩, ⟨by decide +kernel, ⟨"Rangecard", List.mem_of_getElem? (i := 180) (by decide +kernel)⟩, wk_182, wk_2, (RX0, TX0, 4), rfl, rfl⟩⟩⟩) (all_n)))⟩
theorem okX1_cardsLike {l : Launch} (hl : l.stackTraces = false) {G : GT} : ∀ (args : List Value) (w : Hw) (S : Ot → Hw → Prop), spOf MX1_cardsLike args w S → CX l G yX1_cardsLike (.code yX1_cardsLike cX1_cardsLike 5 (some .int)) 2 0 0 args w S := CX_sp (M := MX1_cardsLike) (y := yX1_cardsLike) hl (by decide) rfl (vMX1_cardsLike hl G) (fun h => by cases h)
/-! Rangecard.cardsWithRange()I -/
theorem dX1_cardsWithRange_0 : decode cX1_cardsWithRange 0 = .ok (.iconst 0, 1) := by decide +kernel
theorem dX1_cardsWithRange_1 : decode cX1_cardsWithRange 1 = .ok (.istore_n 1, 1) := by decide +kernel
theorem dX1_cardsWithRange_2 : decode cX1_cardsWithRange 2 = .ok (.iconst 0, 1) := by decide +kernel
theorem dX1_cardsWithRange_3 : decode cX1_cardsWithRange 3 = .ok (.istore_n 2, 1) := by decide +kernel
theorem dX1_cardsWithRange_4 : decode cX1_cardsWithRange 4 = .ok (.iload_n 2, 1) := by decide +kernel
theorem dX1_cardsWithRange_5 : decode cX1_cardsWithRange 5 = .ok (.bipush 6, 2) := by decide +kernel
theorem dX1_cardsWithRange_7 : decode cX1_cardsWithRange 7 = .ok (.if_icmp .ge 29, 3) := by decide +kernel
theorem dX1_cardsWithRange_10 : decode cX1_cardsWithRange 10 = .ok (.iload_n 1, 1) := by decide +kernel
theorem dX1_cardsWithRange_11 : decode cX1_cardsWithRange 11 = .ok (.aload_n 0, 1) := by decide +kernel
theorem dX1_cardsWithRange_12 : decode cX1_cardsWithRange 12 = .ok (.getfield 15, 3) := by decide +kernel
theorem dX1_cardsWithRange_15 : decode cX1_cardsWithRange 15 = .ok (.iload_n 2, 1) := by decide +kernel
theorem dX1_cardsWithRange_16 : decode cX1_cardsWithRange 16 = .ok (.aaload, 1) := by decide +kernel
theorem dX1_cardsWithRange_17 : decode cX1_cardsWithRange 17 = .ok (.ifnull 7, 3) := by decide +kernel
theorem dX1_cardsWithRange_20 : decode cX1_cardsWithRange 20 = .ok (.iconst 1, 1) := by decide +kernel
theorem dX1_cardsWithRange_21 : decode cX1_cardsWithRange 21 = .ok (.goto 4, 3) := by decide +kernel
theorem dX1_cardsWithRange_24 : decode cX1_cardsWithRange 24 = .ok (.iconst 0, 1) := by decide +kernel
theorem dX1_cardsWithRange_25 : decode cX1_cardsWithRange 25 = .ok (.invokestatic 130, 3) := by decide +kernel
theorem dX1_cardsWithRange_28 : decode cX1_cardsWithRange 28 = .ok (.iadd, 1) := by decide +kernel
theorem dX1_cardsWithRange_29 : decode cX1_cardsWithRange 29 = .ok (.istore_n 1, 1) := by decide +kernel
theorem dX1_cardsWithRange_30 : decode cX1_cardsWithRange 30 = .ok (.iinc 2 1, 3) := by decide +kernel
theorem dX1_cardsWithRange_33 : decode cX1_cardsWithRange 33 = .ok (.goto (-29), 3) := by decide +kernel
theorem dX1_cardsWithRange_36 : decode cX1_cardsWithRange 36 = .ok (.iload_n 1, 1) := by decide +kernel
theorem dX1_cardsWithRange_37 : decode cX1_cardsWithRange 37 = .ok (.ireturn, 1) := by decide +kernel
def MX1_cardsWithRange : MT := ((RX1, cX1_cardsWithRange, 3, 2, 0, 0, false, some .int), [(15, 5, 1)], [], [], [], [], 0, [(130, 0, 1, 0, 1, 0, 0, yX1_asNumber, spOf MX1_asNumber)])
section
variable {Q : Ot → Hw → Prop} {st : List Value} {w : Hw} {k n p q : Nat} {a b : Int32} {x y : Int64} {u v : Value} {l0 l1 l2 : Option Value}
theorem eX1_cardsWithRange_0 : WP MX1_cardsWithRange Q (0, [l0, l1, l2], st, w, k, n) = WP MX1_cardsWithRange Q (1, [l0, l1, l2], .int 0 :: st, w, k, n) := iconst_e rfl dX1_cardsWithRange_0 (by decide)
theorem eX1_cardsWithRange_1 : WP MX1_cardsWithRange Q (1, [l0, l1, l2], .int a :: st, w, k, n) = WP MX1_cardsWithRange Q (2, [nl l0, some (.int a), l2], st, w, k, n) := by rw [WP_at (M := MX1_cardsWithRange) rfl dX1_cardsWithRange_1 (Or.inr rfl)]; exact and_t (Nat.le_of_ble_eq_true rfl)
theorem eX1_cardsWithRange_2 : WP MX1_cardsWithRange Q (2, [l0, l1, l2], st, w, k, n) = WP MX1_cardsWithRange Q (3, [l0, l1, l2], .int 0 :: st, w, k, n) := iconst_e rfl dX1_cardsWithRange_2 (by decide)
theorem eX1_cardsWithRange_3 : WP MX1_cardsWithRange Q (3, [l0, l1, l2], .int a :: st, w, k, n) = WP MX1_cardsWithRange Q (4, [l0, nl l1, some (.int a)], st, w, k, n) := by rw [WP_at (M := MX1_cardsWithRange) rfl dX1_cardsWithRange_3 (Or.inr rfl)]; exact and_t (Nat.le_of_ble_eq_true rfl)
theorem eX1_cardsWithRange_4 : WP MX1_cardsWithRange Q (4, [l0, l1, some (.int a)], st, w, k, n) = WP MX1_cardsWithRange Q (5, [l0, l1, some (.int a)], .int a :: st, w, k, n) := Eq.trans (WP_at (M := MX1_cardsWithRange) rfl dX1_cardsWithRange_4 (Or.inr rfl)) rfl
theorem eX1_cardsWithRange_5 : WP MX1_cardsWithRange Q (5, [l0, l1, l2], st, w, k, n) = WP MX1_cardsWithRange Q (7, [l0, l1, l2], .int 6 :: st, w, k, n) := bipush_e rfl dX1_cardsWithRange_5 (by decide)
theorem eX1_cardsWithRange_7 : WP MX1_cardsWithRange Q (7, [l0, l1, l2], .int b :: .int a :: st, w, k, n) = if b ≤ a then WP MX1_cardsWithRange Q (36, [l0, l1, l2], st, w, k, n) else WP MX1_cardsWithRange Q (10, [l0, l1, l2], st, w, k, n) := icm_e (b ≤ a) rfl dX1_cardsWithRange_7 rfl (by decide)
theorem eX1_cardsWithRange_10 : WP MX1_cardsWithRange Q (10, [l0, some (.int a), l2], st, w, k, n) = WP MX1_cardsWithRange Q (11, [l0, some (.int a), l2], .int a :: st, w, k, n) := Eq.trans (WP_at (M := MX1_cardsWithRange) rfl dX1_cardsWithRange_10 (Or.inr rfl)) rfl
theorem eX1_cardsWithRange_11 : WP MX1_cardsWithRange Q (11, [some (.ref p), l1, l2], st, w, k, n) = WP MX1_cardsWithRange Q (12, [some (.ref p), l1, l2], .ref p :: st, w, k, n) := Eq.trans (WP_at (M := MX1_cardsWithRange) rfl dX1_cardsWithRange_11 (Or.inr rfl)) rfl
theorem eX1_cardsWithRange_11N : WP MX1_cardsWithRange Q (11, [some .null, l1, l2], st, w, k, n) = WP MX1_cardsWithRange Q (12, [some .null, l1, l2], .null :: st, w, k, n) := Eq.trans (WP_at (M := MX1_cardsWithRange) rfl dX1_cardsWithRange_11 (Or.inr rfl)) rfl
theorem eX1_cardsWithRange_12 : WP MX1_cardsWithRange Q (12, [l0, l1, l2], .ref p :: st, w, k, n) = go w p 5 fun fs => ∃ v, fs[1]? = some v ∧ WP MX1_cardsWithRange Q (15, [l0, l1, l2], v :: st, w, k, n) := get_e rfl dX1_cardsWithRange_12 rfl
theorem eX1_cardsWithRange_15 : WP MX1_cardsWithRange Q (15, [l0, l1, some (.int a)], st, w, k, n) = WP MX1_cardsWithRange Q (16, [l0, l1, some (.int a)], .int a :: st, w, k, n) := Eq.trans (WP_at (M := MX1_cardsWithRange) rfl dX1_cardsWithRange_15 (Or.inr rfl)) rfl
theorem eX1_cardsWithRange_16 : WP MX1_cardsWithRange Q (16, [l0, l1, l2], .int a :: .ref p :: st, w, k, n) = gq w p fun t N f => (t = 4 ∨ t = 5) ∧ vp_in a N ∧ WP MX1_cardsWithRange Q (17, [l0, l1, l2], va_rf (f a.toNatClampNeg) :: st, w, k, n) := Eq.trans (WP_at (M := MX1_cardsWithRange) rfl dX1_cardsWithRange_16 (Or.inr rfl)) rfl
theorem eX1_cardsWithRange_17R : WP MX1_cardsWithRange Q (17, [l0, l1, l2], .ref p :: st, w, k, n) = WP MX1_cardsWithRange Q (20, [l0, l1, l2], st, w, k, n) := ifnullR_e rfl dX1_cardsWithRange_17 (tgt := 24) (by decide)
theorem eX1_cardsWithRange_17N : WP MX1_cardsWithRange Q (17, [l0, l1, l2], .null :: st, w, k, n) = WP MX1_cardsWithRange Q (24, [l0, l1, l2], st, w, k, n) := ifnullN_e rfl dX1_cardsWithRange_17 (tgt := 24) (by decide)
theorem eX1_cardsWithRange_20 : WP MX1_cardsWithRange Q (20, [l0, l1, l2], st, w, k, n) = WP MX1_cardsWithRange Q (21, [l0, l1, l2], .int 1 :: st, w, k, n) := iconst_e rfl dX1_cardsWithRange_20 (by decide)
theorem eX1_cardsWithRange_21 : WP MX1_cardsWithRange Q (21, [l0, l1, l2], st, w, k, n) = WP MX1_cardsWithRange Q (25, [l0, l1, l2], st, w, k, n) := goto_e rfl dX1_cardsWithRange_21 (by decide)
theorem eX1_cardsWithRange_24 : WP MX1_cardsWithRange Q (24, [l0, l1, l2], st, w, k, n) = WP MX1_cardsWithRange Q (25, [l0, l1, l2], .int 0 :: st, w, k, n) := iconst_e rfl dX1_cardsWithRange_24 (by decide)
theorem eX1_cardsWithRange_25 {z0 : Int32} : WP MX1_cardsWithRange Q (25, [l0, l1, l2], .int z0 :: st, w, k, n) = (wt st ≤ 8 ∧ k + 0 ≤ 0 ∧ n + 0 ≤ 0 ∧ WP MX1_asNumber (kx (fun v w' => WP MX1_cardsWithRange Q (28, [l0, l1, l2], v.toList ++ st, w', k + 0, n + 0)) (fun E w' => Q (.inr E) w')) (0, [some (.int z0)], [], w, 0, 0)) := csS (As := [.int z0]) (rest := st) MX1_asNumber rfl dX1_cardsWithRange_25 rfl (by decide) (by decide) (Nat.le_of_ble_eq_true rfl) rfl
theorem eX1_cardsWithRange_28 : WP MX1_cardsWithRange Q (28, [l0, l1, l2], .int b :: .int a :: st, w, k, n) = WP MX1_cardsWithRange Q (29, [l0, l1, l2], .int (a + b) :: st, w, k, n) := Eq.trans (WP_at (M := MX1_cardsWithRange) rfl dX1_cardsWithRange_28 (Or.inr rfl)) rfl
theorem eX1_cardsWithRange_29 : WP MX1_cardsWithRange Q (29, [l0, l1, l2], .int a :: st, w, k, n) = WP MX1_cardsWithRange Q (30, [nl l0, some (.int a), l2], st, w, k, n) := by rw [WP_at (M := MX1_cardsWithRange) rfl dX1_cardsWithRange_29 (Or.inr rfl)]; exact and_t (Nat.le_of_ble_eq_true rfl)
theorem eX1_cardsWithRange_30 : WP MX1_cardsWithRange Q (30, [l0, l1, some (.int a)], st, w, k, n) = WP MX1_cardsWithRange Q (33, [l0, nl l1, some (.int (a + 1))], st, w, k, n) := Eq.trans (iinc_e (M := MX1_cardsWithRange) (L := [l0, l1, some (.int a)]) (d := 1) rfl dX1_cardsWithRange_30 (by decide) rfl) rfl
theorem eX1_cardsWithRange_33 : WP MX1_cardsWithRange Q (33, [l0, l1, l2], st, w, k, n) = WP MX1_cardsWithRange Q (4, [l0, l1, l2], st, w, k, n) := goto_e rfl dX1_cardsWithRange_33 (by decide)
theorem eX1_cardsWithRange_36 : WP MX1_cardsWithRange Q (36, [l0, some (.int a), l2], st, w, k, n) = WP MX1_cardsWithRange Q (37, [l0, some (.int a), l2], .int a :: st, w, k, n) := Eq.trans (WP_at (M := MX1_cardsWithRange) rfl dX1_cardsWithRange_36 (Or.inr rfl)) rfl
theorem eX1_cardsWithRange_37 : WP MX1_cardsWithRange Q (37, [l0, l1, l2], [.int a], w, k, n) = (k ≤ 0 ∧ n ≤ 0 ∧ Q (.inl (some (.int a))) w) := (iret_e rfl dX1_cardsWithRange_37 rfl).trans (and_t rfl)
end
theorem vMX1_cardsWithRange {l : Launch} (hl : l.stackTraces = false) (G : GT) : vM l G MX1_cardsWithRange := ⟨fun i c j h => lookup_all (l := MX1_cardsWithRange.fld) (P := fun i e => vFld RX1 i e.1 e.2) (all_c (vF_RX1_15) (all_n)) i (c, j) h, fun i c fs h => lookup_all (l := MX1_cardsWithRange.new) (P := fun i e => vNew RX1 i e.1 e.2) (all_n) i (c, fs) h, lookup_all (l := MX1_cardsWithRange.anew) (P := fun i e => vANew RX1 i e) (all_n), lookup_all (l := MX1_cardsWithRange.lng) (P := fun i e => Jvm.Cond.constantLong RX1 i e ∈ WS) (all_n), lookup_all (l := MX1_cardsWithRange.thr) (P := fun i e => vThr RX1 cX1_cardsWithRange i e) (all_n), fun h => absurd rfl h, lookup_all (l := MX1_cardsWithRange.cal) (P := fun i e => vCal l G RX1 i e) (all_c (⟨cX1_asNumber, 1, some .int, fun y hy => by subst hy; exact ⟨by decide, wk_263, okX1_asNumber hl, wk_59, ⟨by decide, by decide⟩, ⟨by decide +kernel, wk_261, wk_262⟩⟩⟩) (all_n))⟩
theorem okX1_cardsWithRange {l : Launch} (hl : l.stackTraces = false) {G : GT} : ∀ (args : List Value) (w : Hw) (S : Ot → Hw → Prop), spOf MX1_cardsWithRange args w S → CX l G yX1_cardsWithRange (.code yX1_cardsWithRange cX1_cardsWithRange 3 (some .int)) 2 0 0 args w S := CX_sp (M := MX1_cardsWithRange) (y := yX1_cardsWithRange) hl (by decide) rfl (vMX1_cardsWithRange hl G) (fun h => by cases h)
/-! Rangecard.firstPlaceOf(LRangecard$Range;)I -/
theorem dX1_firstPlaceOf_0 : decode cX1_firstPlaceOf 0 = .ok (.iconst 0, 1) := by decide +kernel
theorem dX1_firstPlaceOf_1 : decode cX1_firstPlaceOf 1 = .ok (.istore_n 2, 1) := by decide +kernel
theorem dX1_firstPlaceOf_2 : decode cX1_firstPlaceOf 2 = .ok (.iload_n 2, 1) := by decide +kernel
theorem dX1_firstPlaceOf_3 : decode cX1_firstPlaceOf 3 = .ok (.aload_n 0, 1) := by decide +kernel
theorem dX1_firstPlaceOf_4 : decode cX1_firstPlaceOf 4 = .ok (.getfield 22, 3) := by decide +kernel
theorem dX1_firstPlaceOf_7 : decode cX1_firstPlaceOf 7 = .ok (.if_icmp .ge 24, 3) := by decide +kernel
theorem dX1_firstPlaceOf_10 : decode cX1_firstPlaceOf 10 = .ok (.aload_n 1, 1) := by decide +kernel
theorem dX1_firstPlaceOf_11 : decode cX1_firstPlaceOf 11 = .ok (.aload_n 0, 1) := by decide +kernel
theorem dX1_firstPlaceOf_12 : decode cX1_firstPlaceOf 12 = .ok (.getfield 19, 3) := by decide +kernel
theorem dX1_firstPlaceOf_15 : decode cX1_firstPlaceOf 15 = .ok (.iload_n 2, 1) := by decide +kernel
theorem dX1_firstPlaceOf_16 : decode cX1_firstPlaceOf 16 = .ok (.aaload, 1) := by decide +kernel
theorem dX1_firstPlaceOf_17 : decode cX1_firstPlaceOf 17 = .ok (.invokevirtual 110, 3) := by decide +kernel
theorem dX1_firstPlaceOf_20 : decode cX1_firstPlaceOf 20 = .ok (.ifCond .eq 5, 3) := by decide +kernel
theorem dX1_firstPlaceOf_23 : decode cX1_firstPlaceOf 23 = .ok (.iload_n 2, 1) := by decide +kernel
theorem dX1_firstPlaceOf_24 : decode cX1_firstPlaceOf 24 = .ok (.ireturn, 1) := by decide +kernel
theorem dX1_firstPlaceOf_25 : decode cX1_firstPlaceOf 25 = .ok (.iinc 2 1, 3) := by decide +kernel
theorem dX1_firstPlaceOf_28 : decode cX1_firstPlaceOf 28 = .ok (.goto (-26), 3) := by decide +kernel
theorem dX1_firstPlaceOf_31 : decode cX1_firstPlaceOf 31 = .ok (.iconst (-1), 1) := by decide +kernel
theorem dX1_firstPlaceOf_32 : decode cX1_firstPlaceOf 32 = .ok (.ireturn, 1) := by decide +kernel
def MX1_firstPlaceOf : MT := ((RX1, cX1_firstPlaceOf, 3, 2, 0, 0, false, some .int), [(22, 5, 3), (19, 5, 2)], [], [], [], [], 0, [(110, 3, 2, 4, 1, 0, 0, yX0_matches, spOf MX0_matches)])
section
variable {Q : Ot → Hw → Prop} {st : List Value} {w : Hw} {k n p q : Nat} {a b : Int32} {x y : Int64} {u v : Value} {l0 l1 l2 : Option Value}
theorem eX1_firstPlaceOf_0 : WP MX1_firstPlaceOf Q (0, [l0, l1, l2], st, w, k, n) = WP MX1_firstPlaceOf Q (1, [l0, l1, l2], .int 0 :: st, w, k, n) := iconst_e rfl dX1_firstPlaceOf_0 (by decide)
theorem eX1_firstPlaceOf_1 : WP MX1_firstPlaceOf Q (1, [l0, l1, l2], .int a :: st, w, k, n) = WP MX1_firstPlaceOf Q (2, [l0, nl l1, some (.int a)], st, w, k, n) := by rw [WP_at (M := MX1_firstPlaceOf) rfl dX1_firstPlaceOf_1 (Or.inr rfl)]; exact and_t (Nat.le_of_ble_eq_true rfl)
theorem eX1_firstPlaceOf_2 : WP MX1_firstPlaceOf Q (2, [l0, l1, some (.int a)], st, w, k, n) = WP MX1_firstPlaceOf Q (3, [l0, l1, some (.int a)], .int a :: st, w, k, n) := Eq.trans (WP_at (M := MX1_firstPlaceOf) rfl dX1_firstPlaceOf_2 (Or.inr rfl)) rfl
theorem eX1_firstPlaceOf_3 : WP MX1_firstPlaceOf Q (3, [some (.ref p), l1, l2], st, w, k, n) = WP MX1_firstPlaceOf Q (4, [some (.ref p), l1, l2], .ref p :: st, w, k, n) := Eq.trans (WP_at (M := MX1_firstPlaceOf) rfl dX1_firstPlaceOf_3 (Or.inr rfl)) rfl
theorem eX1_firstPlaceOf_3N : WP MX1_firstPlaceOf Q (3, [some .null, l1, l2], st, w, k, n) = WP MX1_firstPlaceOf Q (4, [some .null, l1, l2], .null :: st, w, k, n) := Eq.trans (WP_at (M := MX1_firstPlaceOf) rfl dX1_firstPlaceOf_3 (Or.inr rfl)) rfl
theorem eX1_firstPlaceOf_4 : WP MX1_firstPlaceOf Q (4, [l0, l1, l2], .ref p :: st, w, k, n) = go w p 5 fun fs => ∃ v, fs[3]? = some v ∧ WP MX1_firstPlaceOf Q (7, [l0, l1, l2], v :: st, w, k, n) := get_e rfl dX1_firstPlaceOf_4 rfl
theorem eX1_firstPlaceOf_7 : WP MX1_firstPlaceOf Q (7, [l0, l1, l2], .int b :: .int a :: st, w, k, n) = if b ≤ a then WP MX1_firstPlaceOf Q (31, [l0, l1, l2], st, w, k, n) else WP MX1_firstPlaceOf Q (10, [l0, l1, l2], st, w, k, n) := icm_e (b ≤ a) rfl dX1_firstPlaceOf_7 rfl (by decide)
theorem eX1_firstPlaceOf_10 : WP MX1_firstPlaceOf Q (10, [l0, some (.ref p), l2], st, w, k, n) = WP MX1_firstPlaceOf Q (11, [l0, some (.ref p), l2], .ref p :: st, w, k, n) := Eq.trans (WP_at (M := MX1_firstPlaceOf) rfl dX1_firstPlaceOf_10 (Or.inr rfl)) rfl
theorem eX1_firstPlaceOf_10N : WP MX1_firstPlaceOf Q (10, [l0, some .null, l2], st, w, k, n) = WP MX1_firstPlaceOf Q (11, [l0, some .null, l2], .null :: st, w, k, n) := Eq.trans (WP_at (M := MX1_firstPlaceOf) rfl dX1_firstPlaceOf_10 (Or.inr rfl)) rfl
theorem eX1_firstPlaceOf_11 : WP MX1_firstPlaceOf Q (11, [some (.ref p), l1, l2], st, w, k, n) = WP MX1_firstPlaceOf Q (12, [some (.ref p), l1, l2], .ref p :: st, w, k, n) := Eq.trans (WP_at (M := MX1_firstPlaceOf) rfl dX1_firstPlaceOf_11 (Or.inr rfl)) rfl
theorem eX1_firstPlaceOf_11N : WP MX1_firstPlaceOf Q (11, [some .null, l1, l2], st, w, k, n) = WP MX1_firstPlaceOf Q (12, [some .null, l1, l2], .null :: st, w, k, n) := Eq.trans (WP_at (M := MX1_firstPlaceOf) rfl dX1_firstPlaceOf_11 (Or.inr rfl)) rfl
theorem eX1_firstPlaceOf_12 : WP MX1_firstPlaceOf Q (12, [l0, l1, l2], .ref p :: st, w, k, n) = go w p 5 fun fs => ∃ v, fs[2]? = some v ∧ WP MX1_firstPlaceOf Q (15, [l0, l1, l2], v :: st, w, k, n) := get_e rfl dX1_firstPlaceOf_12 rfl
theorem eX1_firstPlaceOf_15 : WP MX1_firstPlaceOf Q (15, [l0, l1, some (.int a)], st, w, k, n) = WP MX1_firstPlaceOf Q (16, [l0, l1, some (.int a)], .int a :: st, w, k, n) := Eq.trans (WP_at (M := MX1_firstPlaceOf) rfl dX1_firstPlaceOf_15 (Or.inr rfl)) rfl
theorem eX1_firstPlaceOf_16 : WP MX1_firstPlaceOf Q (16, [l0, l1, l2], .int a :: .ref p :: st, w, k, n) = gq w p fun t N f => (t = 4 ∨ t = 5) ∧ vp_in a N ∧ WP MX1_firstPlaceOf Q (17, [l0, l1, l2], va_rf (f a.toNatClampNeg) :: st, w, k, n) := Eq.trans (WP_at (M := MX1_firstPlaceOf) rfl dX1_firstPlaceOf_16 (Or.inr rfl)) rfl
theorem eX1_firstPlaceOf_17R {z0 : Nat} : WP MX1_firstPlaceOf Q (17, [l0, l1, l2], .ref z0 :: .ref p :: st, w, k, n) = (go w p 4 (fun _ => True) ∧ wt st ≤ 8 ∧ k + 0 ≤ 0 ∧ n + 0 ≤ 0 ∧ WP MX0_matches (kx (fun v w' => WP MX1_firstPlaceOf Q (20, [l0, l1, l2], v.toList ++ st, w', k + 0, n + 0)) (fun E w' => Q (.inr E) w')) (0, [some (.ref p), some (.ref z0)], [], w, 0, 0)) := csV (As := [.ref z0]) (rest := st) MX0_matches rfl dX1_firstPlaceOf_17 rfl (by decide) (by decide) (Nat.le_of_ble_eq_true rfl) rfl
theorem eX1_firstPlaceOf_17N  : WP MX1_firstPlaceOf Q (17, [l0, l1, l2], .null :: .ref p :: st, w, k, n) = (go w p 4 (fun _ => True) ∧ wt st ≤ 8 ∧ k + 0 ≤ 0 ∧ n + 0 ≤ 0 ∧ WP MX0_matches (kx (fun v w' => WP MX1_firstPlaceOf Q (20, [l0, l1, l2], v.toList ++ st, w', k + 0, n + 0)) (fun E w' => Q (.inr E) w')) (0, [some (.ref p), some .null], [], w, 0, 0)) := csV (As := [.null]) (rest := st) MX0_matches rfl dX1_firstPlaceOf_17 rfl (by decide) (by decide) (Nat.le_of_ble_eq_true rfl) rfl
theorem eX1_firstPlaceOf_20 : WP MX1_firstPlaceOf Q (20, [l0, l1, l2], .int a :: st, w, k, n) = if a = 0 then WP MX1_firstPlaceOf Q (25, [l0, l1, l2], st, w, k, n) else WP MX1_firstPlaceOf Q (23, [l0, l1, l2], st, w, k, n) := ifc_e (a = 0) rfl dX1_firstPlaceOf_20 rfl (by decide)
theorem eX1_firstPlaceOf_23 : WP MX1_firstPlaceOf Q (23, [l0, l1, some (.int a)], st, w, k, n) = WP MX1_firstPlaceOf Q (24, [l0, l1, some (.int a)], .int a :: st, w, k, n) := Eq.trans (WP_at (M := MX1_firstPlaceOf) rfl dX1_firstPlaceOf_23 (Or.inr rfl)) rfl
theorem eX1_firstPlaceOf_24 : WP MX1_firstPlaceOf Q (24, [l0, l1, l2], [.int a], w, k, n) = (k ≤ 0 ∧ n ≤ 0 ∧ Q (.inl (some (.int a))) w) := (iret_e rfl dX1_firstPlaceOf_24 rfl).trans (and_t rfl)
theorem eX1_firstPlaceOf_25 : WP MX1_firstPlaceOf Q (25, [l0, l1, some (.int a)], st, w, k, n) = WP MX1_firstPlaceOf Q (28, [l0, nl l1, some (.int (a + 1))], st, w, k, n) := Eq.trans (iinc_e (M := MX1_firstPlaceOf) (L := [l0, l1, some (.int a)]) (d := 1) rfl dX1_firstPlaceOf_25 (by decide) rfl) rfl
theorem eX1_firstPlaceOf_28 : WP MX1_firstPlaceOf Q (28, [l0, l1, l2], st, w, k, n) = WP MX1_firstPlaceOf Q (2, [l0, l1, l2], st, w, k, n) := goto_e rfl dX1_firstPlaceOf_28 (by decide)
theorem eX1_firstPlaceOf_31 : WP MX1_firstPlaceOf Q (31, [l0, l1, l2], st, w, k, n) = WP MX1_firstPlaceOf Q (32, [l0, l1, l2], .int (-1) :: st, w, k, n) := iconst_e rfl dX1_firstPlaceOf_31 (by decide)
theorem eX1_firstPlaceOf_32 : WP MX1_firstPlaceOf Q (32, [l0, l1, l2], [.int a], w, k, n) = (k ≤ 0 ∧ n ≤ 0 ∧ Q (.inl (some (.int a))) w) := (iret_e rfl dX1_firstPlaceOf_32 rfl).trans (and_t rfl)
end
theorem wk_100 : (.fieldLink RX1 19 "Rangecard" "laid" "[LRangecard$Range;" : Jvm.Cond) ∈ WS := WS_at 100 (by decide +kernel) rfl
theorem vF_RX1_19 : vFld RX1 19 5 2 := ⟨RX1, TX1, 7, tyX1, "Rangecard", rfl, by decide, iW_5, tyX1_ok, nmX1, Or.inl rfl, Or.inl wk_100⟩
theorem vMX1_firstPlaceOf {l : Launch} (hl : l.stackTraces = false) (G : GT) : vM l G MX1_firstPlaceOf := ⟨fun i c j h => lookup_all (l := MX1_firstPlaceOf.fld) (P := fun i e => vFld RX1 i e.1 e.2) (all_c (vF_RX1_22) (all_c (vF_RX1_19) (all_n))) i (c, j) h, fun i c fs h => lookup_all (l := MX1_firstPlaceOf.new) (P := fun i e => vNew RX1 i e.1 e.2) (all_n) i (c, fs) h, lookup_all (l := MX1_firstPlaceOf.anew) (P := fun i e => vANew RX1 i e) (all_n), lookup_all (l := MX1_firstPlaceOf.lng) (P := fun i e => Jvm.Cond.constantLong RX1 i e ∈ WS) (all_n), lookup_all (l := MX1_firstPlaceOf.thr) (P := fun i e => vThr RX1 cX1_firstPlaceOf i e) (all_n), fun h => absurd rfl h, lookup_all (l := MX1_firstPlaceOf.cal) (P := fun i e => vCal l G RX1 i e) (all_c (⟨cX0_matches, 2, some .boolean, fun y hy => by subst hy; exact ⟨by decide, wk_179, okX0_matches hl, wk_84, ⟨by decide, by decide⟩, ⟨by decide +kernel, ⟨"Rangecard", List.mem_of_getElem? (i := 176) (by decide +kernel)⟩, wk_178, wk_1, (RX0, TX0, 4), rfl, rfl⟩⟩⟩) (all_n))⟩
theorem okX1_firstPlaceOf {l : Launch} (hl : l.stackTraces = false) {G : GT} : ∀ (args : List Value) (w : Hw) (S : Ot → Hw → Prop), spOf MX1_firstPlaceOf args w S → CX l G yX1_firstPlaceOf (.code yX1_firstPlaceOf cX1_firstPlaceOf 3 (some .int)) 2 0 0 args w S := CX_sp (M := MX1_firstPlaceOf) (y := yX1_firstPlaceOf) hl (by decide) rfl (vMX1_firstPlaceOf hl G) (fun h => by cases h)
