/-! Rangecard.isSmallNumber(J)Z -/
theorem dX1_isSmallNumber_0 : decode cX1_isSmallNumber 0 = .ok (.lload_n 0, 1) := by decide +kernel
theorem dX1_isSmallNumber_1 : decode cX1_isSmallNumber 1 = .ok (.ldc2_w 256, 3) := by decide +kernel
theorem dX1_isSmallNumber_4 : decode cX1_isSmallNumber 4 = .ok (.lcmp, 1) := by decide +kernel
theorem dX1_isSmallNumber_5 : decode cX1_isSmallNumber 5 = .ok (.ifCond .lt 15, 3) := by decide +kernel
theorem dX1_isSmallNumber_8 : decode cX1_isSmallNumber 8 = .ok (.lload_n 0, 1) := by decide +kernel
theorem dX1_isSmallNumber_9 : decode cX1_isSmallNumber 9 = .ok (.ldc2_w 258, 3) := by decide +kernel
theorem dX1_isSmallNumber_12 : decode cX1_isSmallNumber 12 = .ok (.lcmp, 1) := by decide +kernel
theorem dX1_isSmallNumber_13 : decode cX1_isSmallNumber 13 = .ok (.ifCond .gt 7, 3) := by decide +kernel
theorem dX1_isSmallNumber_16 : decode cX1_isSmallNumber 16 = .ok (.iconst 1, 1) := by decide +kernel
theorem dX1_isSmallNumber_17 : decode cX1_isSmallNumber 17 = .ok (.goto 4, 3) := by decide +kernel
theorem dX1_isSmallNumber_20 : decode cX1_isSmallNumber 20 = .ok (.iconst 0, 1) := by decide +kernel
theorem dX1_isSmallNumber_21 : decode cX1_isSmallNumber 21 = .ok (.ireturn, 1) := by decide +kernel
def MX1_isSmallNumber (g : RO) : MT := ((RX1, cX1_isSmallNumber, 2, 1, 0, 0, false, some .boolean), [], [], [], [(256, -2147483648), (258, 2147483647)], [], 0, [], [], [], 0, [], [], g)
section
variable {g : RO} {Q : Ot → Hw → Prop} {st : List Value} {w : Hw} {k n p q : Nat} {a b : Int32} {x y : Int64} {u v : Value} {l0 l1 : Option Value}
theorem eX1_isSmallNumber_0 : WP (MX1_isSmallNumber g) Q (0, [some (.long x), l1], st, w, k, n) = WP (MX1_isSmallNumber g) Q (1, [some (.long x), l1], .long x :: st, w, k, n) := Eq.trans (WP_at (M := (MX1_isSmallNumber g)) rfl dX1_isSmallNumber_0 (Or.inr rfl)) rfl
theorem eX1_isSmallNumber_1 : WP (MX1_isSmallNumber g) Q (1, [l0, l1], st, w, k, n) = WP (MX1_isSmallNumber g) Q (4, [l0, l1], .long (-2147483648) :: st, w, k, n) := ldc2_e rfl dX1_isSmallNumber_1 rfl
theorem eX1_isSmallNumber_4 : WP (MX1_isSmallNumber g) Q (4, [l0, l1], .long y :: .long x :: st, w, k, n) = WP (MX1_isSmallNumber g) Q (5, [l0, l1], .int (lg_cmp x y) :: st, w, k, n) := Eq.trans (WP_at (M := (MX1_isSmallNumber g)) rfl dX1_isSmallNumber_4 (Or.inr rfl)) rfl
theorem eX1_isSmallNumber_5 : WP (MX1_isSmallNumber g) Q (5, [l0, l1], .int a :: st, w, k, n) = if a < 0 then WP (MX1_isSmallNumber g) Q (20, [l0, l1], st, w, k, n) else WP (MX1_isSmallNumber g) Q (8, [l0, l1], st, w, k, n) := ifc_e (a < 0) rfl dX1_isSmallNumber_5 rfl (by decide)
theorem eX1_isSmallNumber_8 : WP (MX1_isSmallNumber g) Q (8, [some (.long x), l1], st, w, k, n) = WP (MX1_isSmallNumber g) Q (9, [some (.long x), l1], .long x :: st, w, k, n) := Eq.trans (WP_at (M := (MX1_isSmallNumber g)) rfl dX1_isSmallNumber_8 (Or.inr rfl)) rfl
theorem eX1_isSmallNumber_9 : WP (MX1_isSmallNumber g) Q (9, [l0, l1], st, w, k, n) = WP (MX1_isSmallNumber g) Q (12, [l0, l1], .long 2147483647 :: st, w, k, n) := ldc2_e rfl dX1_isSmallNumber_9 rfl
theorem eX1_isSmallNumber_12 : WP (MX1_isSmallNumber g) Q (12, [l0, l1], .long y :: .long x :: st, w, k, n) = WP (MX1_isSmallNumber g) Q (13, [l0, l1], .int (lg_cmp x y) :: st, w, k, n) := Eq.trans (WP_at (M := (MX1_isSmallNumber g)) rfl dX1_isSmallNumber_12 (Or.inr rfl)) rfl
theorem eX1_isSmallNumber_13 : WP (MX1_isSmallNumber g) Q (13, [l0, l1], .int a :: st, w, k, n) = if 0 < a then WP (MX1_isSmallNumber g) Q (20, [l0, l1], st, w, k, n) else WP (MX1_isSmallNumber g) Q (16, [l0, l1], st, w, k, n) := ifc_e (0 < a) rfl dX1_isSmallNumber_13 rfl (by decide)
theorem eX1_isSmallNumber_16 : WP (MX1_isSmallNumber g) Q (16, [l0, l1], st, w, k, n) = WP (MX1_isSmallNumber g) Q (17, [l0, l1], .int 1 :: st, w, k, n) := iconst_e rfl dX1_isSmallNumber_16 (by decide)
theorem eX1_isSmallNumber_17 : WP (MX1_isSmallNumber g) Q (17, [l0, l1], st, w, k, n) = WP (MX1_isSmallNumber g) Q (21, [l0, l1], st, w, k, n) := goto_e rfl dX1_isSmallNumber_17 (by decide)
theorem eX1_isSmallNumber_20 : WP (MX1_isSmallNumber g) Q (20, [l0, l1], st, w, k, n) = WP (MX1_isSmallNumber g) Q (21, [l0, l1], .int 0 :: st, w, k, n) := iconst_e rfl dX1_isSmallNumber_20 (by decide)
theorem eX1_isSmallNumber_21 : WP (MX1_isSmallNumber g) Q (21, [l0, l1], [.int a], w, k, n) = (narrow (.boolean) (.int a) = .int a ∧ k ≤ 0 ∧ n ≤ 0 ∧ Q (.inl (some (.int a))) w) := iret_e rfl dX1_isSmallNumber_21 rfl
end
theorem wk_462 : (.constantLong RX1 256 (-2147483648) : Jvm.Cond) ∈ WS := WS_at 462 (by decide +kernel) rfl
theorem wk_463 : (.constantLong RX1 258 (2147483647) : Jvm.Cond) ∈ WS := WS_at 463 (by decide +kernel) rfl
theorem vMX1_isSmallNumber {l : Launch} (hl : l.stackTraces = false) (G : GT) : vM l G (MX1_isSmallNumber (gg G)) := ⟨fun i c j h => lookup_all (l := (MX1_isSmallNumber (gg G)).fld) (P := fun i e => vFld RX1 i e.1 e.2) (all_n) i (c, j) h, fun i c fs h => lookup_all (l := (MX1_isSmallNumber (gg G)).new) (P := fun i e => vNew RX1 i e.1 e.2) (all_n) i (c, fs) h, lookup_all (l := (MX1_isSmallNumber (gg G)).anew) (P := fun i e => vANew RX1 i e) (all_n), lookup_all (l := (MX1_isSmallNumber (gg G)).lng) (P := fun i e => Jvm.Cond.constantLong RX1 i e ∈ WS) (all_c (wk_462) (all_c (wk_463) (all_n))), lookup_all (l := (MX1_isSmallNumber (gg G)).thr) (P := fun i e => vThr RX1 cX1_isSmallNumber i e) (all_n), fun h => absurd rfl h, lookup_all (l := (MX1_isSmallNumber (gg G)).cal) (P := fun i e => vCal l G RX1 i e) (all_n), lookup_all (l := (MX1_isSmallNumber (gg G)).stt) (P := fun i e => vStt G RX1 i e) (all_n), lookup_all (l := (MX1_isSmallNumber (gg G)).cst) (P := fun i e => vCst RX1 i e) (all_n), fun h => absurd rfl h, rfl, all_n⟩
theorem okX1_isSmallNumber {l : Launch} (hl : l.stackTraces = false) {G : GT} : ∀ (args : List Value) (w : Hw) (S : Ot → Hw → Prop), spOf (MX1_isSmallNumber (gg G)) args w S → CX l G yX1_isSmallNumber (.code yX1_isSmallNumber cX1_isSmallNumber 2 (some .boolean)) 1 0 0 args w S := CX_sp (M := MX1_isSmallNumber (gg G)) (y := yX1_isSmallNumber) hl (by decide) rfl (vMX1_isSmallNumber hl G) (fun h => by cases h) rfl
/-! Rangecard.asNumber(Z)I -/
theorem dX1_asNumber_0 : decode cX1_asNumber 0 = .ok (.iload_n 0, 1) := by decide +kernel
theorem dX1_asNumber_1 : decode cX1_asNumber 1 = .ok (.ifCond .eq 7, 3) := by decide +kernel
theorem dX1_asNumber_4 : decode cX1_asNumber 4 = .ok (.iconst 1, 1) := by decide +kernel
theorem dX1_asNumber_5 : decode cX1_asNumber 5 = .ok (.goto 4, 3) := by decide +kernel
theorem dX1_asNumber_8 : decode cX1_asNumber 8 = .ok (.iconst 0, 1) := by decide +kernel
theorem dX1_asNumber_9 : decode cX1_asNumber 9 = .ok (.ireturn, 1) := by decide +kernel
def MX1_asNumber (g : RO) : MT := ((RX1, cX1_asNumber, 1, 1, 0, 0, false, some .int), [], [], [], [], [], 0, [], [], [], 0, [], [], g)
section
variable {g : RO} {Q : Ot → Hw → Prop} {st : List Value} {w : Hw} {k n p q : Nat} {a b : Int32} {x y : Int64} {u v : Value} {l0 : Option Value}
theorem eX1_asNumber_0 : WP (MX1_asNumber g) Q (0, [some (.int a)], st, w, k, n) = WP (MX1_asNumber g) Q (1, [some (.int a)], .int a :: st, w, k, n) := Eq.trans (WP_at (M := (MX1_asNumber g)) rfl dX1_asNumber_0 (Or.inr rfl)) rfl
theorem eX1_asNumber_1 : WP (MX1_asNumber g) Q (1, [l0], .int a :: st, w, k, n) = if a = 0 then WP (MX1_asNumber g) Q (8, [l0], st, w, k, n) else WP (MX1_asNumber g) Q (4, [l0], st, w, k, n) := ifc_e (a = 0) rfl dX1_asNumber_1 rfl (by decide)
theorem eX1_asNumber_4 : WP (MX1_asNumber g) Q (4, [l0], st, w, k, n) = WP (MX1_asNumber g) Q (5, [l0], .int 1 :: st, w, k, n) := iconst_e rfl dX1_asNumber_4 (by decide)
theorem eX1_asNumber_5 : WP (MX1_asNumber g) Q (5, [l0], st, w, k, n) = WP (MX1_asNumber g) Q (9, [l0], st, w, k, n) := goto_e rfl dX1_asNumber_5 (by decide)
theorem eX1_asNumber_8 : WP (MX1_asNumber g) Q (8, [l0], st, w, k, n) = WP (MX1_asNumber g) Q (9, [l0], .int 0 :: st, w, k, n) := iconst_e rfl dX1_asNumber_8 (by decide)
theorem eX1_asNumber_9 : WP (MX1_asNumber g) Q (9, [l0], [.int a], w, k, n) = (k ≤ 0 ∧ n ≤ 0 ∧ Q (.inl (some (.int a))) w) := iretI_e rfl dX1_asNumber_9 rfl
end
theorem vMX1_asNumber {l : Launch} (hl : l.stackTraces = false) (G : GT) : vM l G (MX1_asNumber (gg G)) := ⟨fun i c j h => lookup_all (l := (MX1_asNumber (gg G)).fld) (P := fun i e => vFld RX1 i e.1 e.2) (all_n) i (c, j) h, fun i c fs h => lookup_all (l := (MX1_asNumber (gg G)).new) (P := fun i e => vNew RX1 i e.1 e.2) (all_n) i (c, fs) h, lookup_all (l := (MX1_asNumber (gg G)).anew) (P := fun i e => vANew RX1 i e) (all_n), lookup_all (l := (MX1_asNumber (gg G)).lng) (P := fun i e => Jvm.Cond.constantLong RX1 i e ∈ WS) (all_n), lookup_all (l := (MX1_asNumber (gg G)).thr) (P := fun i e => vThr RX1 cX1_asNumber i e) (all_n), fun h => absurd rfl h, lookup_all (l := (MX1_asNumber (gg G)).cal) (P := fun i e => vCal l G RX1 i e) (all_n), lookup_all (l := (MX1_asNumber (gg G)).stt) (P := fun i e => vStt G RX1 i e) (all_n), lookup_all (l := (MX1_asNumber (gg G)).cst) (P := fun i e => vCst RX1 i e) (all_n), fun h => absurd rfl h, rfl, all_n⟩
theorem okX1_asNumber {l : Launch} (hl : l.stackTraces = false) {G : GT} : ∀ (args : List Value) (w : Hw) (S : Ot → Hw → Prop), spOf (MX1_asNumber (gg G)) args w S → CX l G yX1_asNumber (.code yX1_asNumber cX1_asNumber 1 (some .int)) 1 0 0 args w S := CX_sp (M := MX1_asNumber (gg G)) (y := yX1_asNumber) hl (by decide) rfl (vMX1_asNumber hl G) (fun h => by cases h) rfl
/-! Rangecard.farNumber(I)J -/
theorem dX1_farNumber_0 : decode cX1_farNumber 0 = .ok (.iload_n 0, 1) := by decide +kernel
theorem dX1_farNumber_1 : decode cX1_farNumber 1 = .ok (.tableswitch 39 0 2 #[27, 31, 35], 27) := by decide +kernel
theorem dX1_farNumber_28 : decode cX1_farNumber 28 = .ok (.ldc2_w 260, 3) := by decide +kernel
theorem dX1_farNumber_31 : decode cX1_farNumber 31 = .ok (.lreturn, 1) := by decide +kernel
theorem dX1_farNumber_32 : decode cX1_farNumber 32 = .ok (.ldc2_w 262, 3) := by decide +kernel
theorem dX1_farNumber_35 : decode cX1_farNumber 35 = .ok (.lreturn, 1) := by decide +kernel
theorem dX1_farNumber_36 : decode cX1_farNumber 36 = .ok (.ldc2_w 256, 3) := by decide +kernel
theorem dX1_farNumber_39 : decode cX1_farNumber 39 = .ok (.lreturn, 1) := by decide +kernel
theorem dX1_farNumber_40 : decode cX1_farNumber 40 = .ok (.ldc2_w 258, 3) := by decide +kernel
theorem dX1_farNumber_43 : decode cX1_farNumber 43 = .ok (.lreturn, 1) := by decide +kernel
def MX1_farNumber (g : RO) : MT := ((RX1, cX1_farNumber, 1, 1, 0, 0, false, some .long), [], [], [], [(260, -9223372036854775808), (262, 9223372036854775807), (256, -2147483648), (258, 2147483647)], [], 0, [], [], [], 0, [], [], g)
section
variable {g : RO} {Q : Ot → Hw → Prop} {st : List Value} {w : Hw} {k n p q : Nat} {a b : Int32} {x y : Int64} {u v : Value} {l0 : Option Value}
theorem eX1_farNumber_0 : WP (MX1_farNumber g) Q (0, [some (.int a)], st, w, k, n) = WP (MX1_farNumber g) Q (1, [some (.int a)], .int a :: st, w, k, n) := Eq.trans (WP_at (M := (MX1_farNumber g)) rfl dX1_farNumber_0 (Or.inr rfl)) rfl
theorem eX1_farNumber_1_0 : WP (MX1_farNumber g) Q (1, [l0], .int 0 :: st, w, k, n) = WP (MX1_farNumber g) Q (28, [l0], st, w, k, n) := tsw_e (off := 27) rfl dX1_farNumber_1 (by decide) (by decide) (by decide) (by decide) (by decide)
theorem eX1_farNumber_1_1 : WP (MX1_farNumber g) Q (1, [l0], .int 1 :: st, w, k, n) = WP (MX1_farNumber g) Q (32, [l0], st, w, k, n) := tsw_e (off := 31) rfl dX1_farNumber_1 (by decide) (by decide) (by decide) (by decide) (by decide)
theorem eX1_farNumber_1_2 : WP (MX1_farNumber g) Q (1, [l0], .int 2 :: st, w, k, n) = WP (MX1_farNumber g) Q (36, [l0], st, w, k, n) := tsw_e (off := 35) rfl dX1_farNumber_1 (by decide) (by decide) (by decide) (by decide) (by decide)
theorem eX1_farNumber_1_d3 : WP (MX1_farNumber g) Q (1, [l0], .int 3 :: st, w, k, n) = WP (MX1_farNumber g) Q (40, [l0], st, w, k, n) := tswd_e rfl dX1_farNumber_1 (by decide) (by decide)
theorem eX1_farNumber_1_d4 : WP (MX1_farNumber g) Q (1, [l0], .int 4 :: st, w, k, n) = WP (MX1_farNumber g) Q (40, [l0], st, w, k, n) := tswd_e rfl dX1_farNumber_1 (by decide) (by decide)
theorem eX1_farNumber_1_d (h : a.toInt < 0 ∨ 2 < a.toInt) : WP (MX1_farNumber g) Q (1, [l0], .int a :: st, w, k, n) = WP (MX1_farNumber g) Q (40, [l0], st, w, k, n) := tswd_e rfl dX1_farNumber_1 h (by decide)
theorem eX1_farNumber_28 : WP (MX1_farNumber g) Q (28, [l0], st, w, k, n) = WP (MX1_farNumber g) Q (31, [l0], .long (-9223372036854775808) :: st, w, k, n) := ldc2_e rfl dX1_farNumber_28 rfl
theorem eX1_farNumber_31 : WP (MX1_farNumber g) Q (31, [l0], [.long x], w, k, n) = (k ≤ 0 ∧ n ≤ 0 ∧ Q (.inl (some (.long x))) w) := lret_e rfl dX1_farNumber_31 rfl
theorem eX1_farNumber_32 : WP (MX1_farNumber g) Q (32, [l0], st, w, k, n) = WP (MX1_farNumber g) Q (35, [l0], .long 9223372036854775807 :: st, w, k, n) := ldc2_e rfl dX1_farNumber_32 rfl
theorem eX1_farNumber_35 : WP (MX1_farNumber g) Q (35, [l0], [.long x], w, k, n) = (k ≤ 0 ∧ n ≤ 0 ∧ Q (.inl (some (.long x))) w) := lret_e rfl dX1_farNumber_35 rfl
theorem eX1_farNumber_36 : WP (MX1_farNumber g) Q (36, [l0], st, w, k, n) = WP (MX1_farNumber g) Q (39, [l0], .long (-2147483648) :: st, w, k, n) := ldc2_e rfl dX1_farNumber_36 rfl
theorem eX1_farNumber_39 : WP (MX1_farNumber g) Q (39, [l0], [.long x], w, k, n) = (k ≤ 0 ∧ n ≤ 0 ∧ Q (.inl (some (.long x))) w) := lret_e rfl dX1_farNumber_39 rfl
theorem eX1_farNumber_40 : WP (MX1_farNumber g) Q (40, [l0], st, w, k, n) = WP (MX1_farNumber g) Q (43, [l0], .long 2147483647 :: st, w, k, n) := ldc2_e rfl dX1_farNumber_40 rfl
theorem eX1_farNumber_43 : WP (MX1_farNumber g) Q (43, [l0], [.long x], w, k, n) = (k ≤ 0 ∧ n ≤ 0 ∧ Q (.inl (some (.long x))) w) := lret_e rfl dX1_farNumber_43 rfl
end
theorem wk_199 : (.constantLong RX1 260 (-9223372036854775808) : Jvm.Cond) ∈ WS := WS_at 199 (by decide +kernel) rfl
theorem wk_204 : (.constantLong RX1 262 (9223372036854775807) : Jvm.Cond) ∈ WS := WS_at 204 (by decide +kernel) rfl
theorem vMX1_farNumber {l : Launch} (hl : l.stackTraces = false) (G : GT) : vM l G (MX1_farNumber (gg G)) := ⟨fun i c j h => lookup_all (l := (MX1_farNumber (gg G)).fld) (P := fun i e => vFld RX1 i e.1 e.2) (all_n) i (c, j) h, fun i c fs h => lookup_all (l := (MX1_farNumber (gg G)).new) (P := fun i e => vNew RX1 i e.1 e.2) (all_n) i (c, fs) h, lookup_all (l := (MX1_farNumber (gg G)).anew) (P := fun i e => vANew RX1 i e) (all_n), lookup_all (l := (MX1_farNumber (gg G)).lng) (P := fun i e => Jvm.Cond.constantLong RX1 i e ∈ WS) (all_c (wk_199) (all_c (wk_204) (all_c (wk_462) (all_c (wk_463) (all_n))))), lookup_all (l := (MX1_farNumber (gg G)).thr) (P := fun i e => vThr RX1 cX1_farNumber i e) (all_n), fun h => absurd rfl h, lookup_all (l := (MX1_farNumber (gg G)).cal) (P := fun i e => vCal l G RX1 i e) (all_n), lookup_all (l := (MX1_farNumber (gg G)).stt) (P := fun i e => vStt G RX1 i e) (all_n), lookup_all (l := (MX1_farNumber (gg G)).cst) (P := fun i e => vCst RX1 i e) (all_n), fun h => absurd rfl h, rfl, all_n⟩
theorem okX1_farNumber {l : Launch} (hl : l.stackTraces = false) {G : GT} : ∀ (args : List Value) (w : Hw) (S : Ot → Hw → Prop), spOf (MX1_farNumber (gg G)) args w S → CX l G yX1_farNumber (.code yX1_farNumber cX1_farNumber 1 (some .long)) 1 0 0 args w S := CX_sp (M := MX1_farNumber (gg G)) (y := yX1_farNumber) hl (by decide) rfl (vMX1_farNumber hl G) (fun h => by cases h) rfl
/-! Rangecard.putNumber(IJ)I -/
theorem dX1_putNumber_0 : decode cX1_putNumber 0 = .ok (.aload_n 0, 1) := by decide +kernel
theorem dX1_putNumber_1 : decode cX1_putNumber 1 = .ok (.getfield 9, 3) := by decide +kernel
theorem dX1_putNumber_4 : decode cX1_putNumber 4 = .ok (.iload_n 1, 1) := by decide +kernel
theorem dX1_putNumber_5 : decode cX1_putNumber 5 = .ok (.lload_n 2, 1) := by decide +kernel
theorem dX1_putNumber_6 : decode cX1_putNumber 6 = .ok (.lastore, 1) := by decide +kernel
theorem dX1_putNumber_7 : decode cX1_putNumber 7 = .ok (.lload_n 2, 1) := by decide +kernel
theorem dX1_putNumber_8 : decode cX1_putNumber 8 = .ok (.invokestatic 45, 3) := by decide +kernel
theorem dX1_putNumber_11 : decode cX1_putNumber 11 = .ok (.ireturn, 1) := by decide +kernel
def MX1_putNumber (g : RO) : MT := ((RX1, cX1_putNumber, 4, 2, 0, 0, false, some .int), [(9, 5, 0)], [], [], [], [], 0, [(45, 0, 1, 0, 1, (fun _ _ => 0), (fun _ _ => 0), yX1_lowOf, spOf (MX1_lowOf g))], [], [], 0, [], [], g)
section
variable {g : RO} {Q : Ot → Hw → Prop} {st : List Value} {w : Hw} {k n p q : Nat} {a b : Int32} {x y : Int64} {u v : Value} {l0 l1 l2 l3 : Option Value}
theorem eX1_putNumber_0 : WP (MX1_putNumber g) Q (0, [some (.ref p), l1, l2, l3], st, w, k, n) = WP (MX1_putNumber g) Q (1, [some (.ref p), l1, l2, l3], .ref p :: st, w, k, n) := Eq.trans (WP_at (M := (MX1_putNumber g)) rfl dX1_putNumber_0 (Or.inr rfl)) rfl
theorem eX1_putNumber_0N : WP (MX1_putNumber g) Q (0, [some .null, l1, l2, l3], st, w, k, n) = WP (MX1_putNumber g) Q (1, [some .null, l1, l2, l3], .null :: st, w, k, n) := Eq.trans (WP_at (M := (MX1_putNumber g)) rfl dX1_putNumber_0 (Or.inr rfl)) rfl
theorem eX1_putNumber_1 : WP (MX1_putNumber g) Q (1, [l0, l1, l2, l3], .ref p :: st, w, k, n) = go (rd g w p) 5 fun fs => ∃ v, fs[0]? = some v ∧ WP (MX1_putNumber g) Q (4, [l0, l1, l2, l3], v :: st, w, k, n) := get_e rfl dX1_putNumber_1 rfl
theorem eX1_putNumber_4 : WP (MX1_putNumber g) Q (4, [l0, some (.int a), l2, l3], st, w, k, n) = WP (MX1_putNumber g) Q (5, [l0, some (.int a), l2, l3], .int a :: st, w, k, n) := Eq.trans (WP_at (M := (MX1_putNumber g)) rfl dX1_putNumber_4 (Or.inr rfl)) rfl
theorem eX1_putNumber_5 : WP (MX1_putNumber g) Q (5, [l0, l1, some (.long x), l3], st, w, k, n) = WP (MX1_putNumber g) Q (6, [l0, l1, some (.long x), l3], .long x :: st, w, k, n) := Eq.trans (WP_at (M := (MX1_putNumber g)) rfl dX1_putNumber_5 (Or.inr rfl)) rfl
theorem eX1_putNumber_6 : WP (MX1_putNumber g) Q (6, [l0, l1, l2, l3], .long x :: .int a :: .ref p :: st, w, k, n) = gl (w p) 0 fun N f => vp_in a N ∧ WP (MX1_putNumber g) Q (7, [l0, l1, l2, l3], st, upw w p (.inl (0, N, .inr (.inl (vp_updL f a.toNatClampNeg x)))), k, n) := Eq.trans (WP_at (M := (MX1_putNumber g)) rfl dX1_putNumber_6 (Or.inr rfl)) rfl
theorem eX1_putNumber_7 : WP (MX1_putNumber g) Q (7, [l0, l1, some (.long x), l3], st, w, k, n) = WP (MX1_putNumber g) Q (8, [l0, l1, some (.long x), l3], .long x :: st, w, k, n) := Eq.trans (WP_at (M := (MX1_putNumber g)) rfl dX1_putNumber_7 (Or.inr rfl)) rfl
theorem eX1_putNumber_8 {z0 : Int64} : WP (MX1_putNumber g) Q (8, [l0, l1, l2, l3], .long z0 :: st, w, k, n) = (wt st ≤ 8 ∧ k + 0 ≤ 0 ∧ n + 0 ≤ 0 ∧ WP (MX1_lowOf g) (kx (fun v w' => WP (MX1_putNumber g) Q (11, [l0, l1, l2, l3], v.toList ++ st, w', k + 0, n + 0)) (fun E w' => Q (.inr E) w')) (0, [some (.long z0), none], [], w, 0, 0)) := csS (M := (MX1_putNumber g)) (mc := (fun _ _ => 0)) (ms := (fun _ _ => 0)) (As := [.long z0]) (rest := st) (MX1_lowOf g) rfl rfl dX1_putNumber_8 (Nat.ne_of_beq_eq_false rfl) (by exact fun h => nomatch (show (none : Option Nat) = some 12 from h)) (by exact fun h => nomatch (show (none : Option Nat) = some 13 from h)) (by exact fun h => nomatch (show (none : Option Nat) = some 14 from h)) rfl rfl (by decide) (Nat.le_of_ble_eq_true rfl) (Nat.le_of_ble_eq_true rfl) rfl
theorem eX1_putNumber_11 : WP (MX1_putNumber g) Q (11, [l0, l1, l2, l3], [.int a], w, k, n) = (k ≤ 0 ∧ n ≤ 0 ∧ Q (.inl (some (.int a))) w) := iretI_e rfl dX1_putNumber_11 rfl
end
theorem wk_98 : (.fieldLink RX1 9 "Rangecard" "numbers" "[J" : Jvm.Cond) ∈ WS := WS_at 98 (by decide +kernel) rfl
theorem vF_RX1_9 : vFld RX1 9 5 0 := ⟨RX1, TX1, 7, tyX1, "Rangecard", rfl, by decide, iW_5, tyX1_ok, nmX1, Or.inl rfl, Or.inl wk_98⟩
theorem vMX1_putNumber {l : Launch} (hl : l.stackTraces = false) (G : GT) : vM l G (MX1_putNumber (gg G)) := ⟨fun i c j h => lookup_all (l := (MX1_putNumber (gg G)).fld) (P := fun i e => vFld RX1 i e.1 e.2) (all_c (vF_RX1_9) (all_n)) i (c, j) h, fun i c fs h => lookup_all (l := (MX1_putNumber (gg G)).new) (P := fun i e => vNew RX1 i e.1 e.2) (all_n) i (c, fs) h, lookup_all (l := (MX1_putNumber (gg G)).anew) (P := fun i e => vANew RX1 i e) (all_n), lookup_all (l := (MX1_putNumber (gg G)).lng) (P := fun i e => Jvm.Cond.constantLong RX1 i e ∈ WS) (all_n), lookup_all (l := (MX1_putNumber (gg G)).thr) (P := fun i e => vThr RX1 cX1_putNumber i e) (all_n), fun h => absurd rfl h, lookup_all (l := (MX1_putNumber (gg G)).cal) (P := fun i e => vCal l G RX1 i e) (all_c (⟨cX1_lowOf, 2, some .int, fun y hy => by subst hy; exact ⟨by decide, ⟨_, wk_277, okX1_lowOf hl, Or.inl ⟨Nat.ne_of_beq_eq_false rfl, rfl⟩⟩, wk_59, ⟨(by decide : yX1_lowOf.cls ≠ "java/lang/invoke/MethodHandle"), (by decide : yX1_lowOf.cls ≠ "java/lang/invoke/VarHandle")⟩, ⟨(by decide +kernel : (parseMethodDescriptor yX1_lowOf.desc).map (fun d => d.parameters.length) = some 1), wk_275, wk_276⟩⟩⟩) (all_n)), lookup_all (l := (MX1_putNumber (gg G)).stt) (P := fun i e => vStt G RX1 i e) (all_n), lookup_all (l := (MX1_putNumber (gg G)).cst) (P := fun i e => vCst RX1 i e) (all_n), fun h => absurd rfl h, rfl, all_n⟩
theorem okX1_putNumber {l : Launch} (hl : l.stackTraces = false) {G : GT} : ∀ (args : List Value) (w : Hw) (S : Ot → Hw → Prop), spOf (MX1_putNumber (gg G)) args w S → CX l G yX1_putNumber (.code yX1_putNumber cX1_putNumber 4 (some .int)) 2 0 0 args w S := CX_sp (M := MX1_putNumber (gg G)) (y := yX1_putNumber) hl (by decide) rfl (vMX1_putNumber hl G) (fun h => by cases h) rfl
/-! Rangecard.copyOf(LRangecard$Range;)LRangecard$Range; -/
theorem dX1_copyOf_0 : decode cX1_copyOf 0 = .ok (.aload_n 0, 1) := by decide +kernel
theorem dX1_copyOf_1 : decode cX1_copyOf 1 = .ok (.getfield 124, 3) := by decide +kernel
theorem dX1_copyOf_4 : decode cX1_copyOf 4 = .ok (.aload_n 0, 1) := by decide +kernel
theorem dX1_copyOf_5 : decode cX1_copyOf 5 = .ok (.getfield 117, 3) := by decide +kernel
theorem dX1_copyOf_8 : decode cX1_copyOf 8 = .ok (.aload_n 0, 1) := by decide +kernel
theorem dX1_copyOf_9 : decode cX1_copyOf 9 = .ok (.getfield 121, 3) := by decide +kernel
theorem dX1_copyOf_12 : decode cX1_copyOf 12 = .ok (.aload_n 0, 1) := by decide +kernel
theorem dX1_copyOf_13 : decode cX1_copyOf 13 = .ok (.getfield 127, 3) := by decide +kernel
theorem dX1_copyOf_16 : decode cX1_copyOf 16 = .ok (.invokestatic 94, 3) := by decide +kernel
theorem dX1_copyOf_19 : decode cX1_copyOf 19 = .ok (.areturn, 1) := by decide +kernel
def MX1_copyOf (g : RO) : MT := ((RX1, cX1_copyOf, 1, 3, 1, 4, false, some (.object "Rangecard$Range")), [(124, 4, 0), (117, 4, 1), (121, 4, 2), (127, 4, 3)], [], [], [], [], 0, [(94, 1, 4, 0, 2, (fun _ _ => 1), (fun _ _ => 4), yX0_ofFour, spOf (MX0_ofFour g))], [], [], 0, [], [], g)
section
variable {g : RO} {Q : Ot → Hw → Prop} {st : List Value} {w : Hw} {k n p q : Nat} {a b : Int32} {x y : Int64} {u v : Value} {l0 : Option Value}
theorem eX1_copyOf_0 : WP (MX1_copyOf g) Q (0, [some (.ref p)], st, w, k, n) = WP (MX1_copyOf g) Q (1, [some (.ref p)], .ref p :: st, w, k, n) := Eq.trans (WP_at (M := (MX1_copyOf g)) rfl dX1_copyOf_0 (Or.inr rfl)) rfl
theorem eX1_copyOf_0N : WP (MX1_copyOf g) Q (0, [some .null], st, w, k, n) = WP (MX1_copyOf g) Q (1, [some .null], .null :: st, w, k, n) := Eq.trans (WP_at (M := (MX1_copyOf g)) rfl dX1_copyOf_0 (Or.inr rfl)) rfl
theorem eX1_copyOf_1 : WP (MX1_copyOf g) Q (1, [l0], .ref p :: st, w, k, n) = go (rd g w p) 4 fun fs => ∃ v, fs[0]? = some v ∧ WP (MX1_copyOf g) Q (4, [l0], v :: st, w, k, n) := get_e rfl dX1_copyOf_1 rfl
theorem eX1_copyOf_4 : WP (MX1_copyOf g) Q (4, [some (.ref p)], st, w, k, n) = WP (MX1_copyOf g) Q (5, [some (.ref p)], .ref p :: st, w, k, n) := Eq.trans (WP_at (M := (MX1_copyOf g)) rfl dX1_copyOf_4 (Or.inr rfl)) rfl
theorem eX1_copyOf_4N : WP (MX1_copyOf g) Q (4, [some .null], st, w, k, n) = WP (MX1_copyOf g) Q (5, [some .null], .null :: st, w, k, n) := Eq.trans (WP_at (M := (MX1_copyOf g)) rfl dX1_copyOf_4 (Or.inr rfl)) rfl
theorem eX1_copyOf_5 : WP (MX1_copyOf g) Q (5, [l0], .ref p :: st, w, k, n) = go (rd g w p) 4 fun fs => ∃ v, fs[1]? = some v ∧ WP (MX1_copyOf g) Q (8, [l0], v :: st, w, k, n) := get_e rfl dX1_copyOf_5 rfl
theorem eX1_copyOf_8 : WP (MX1_copyOf g) Q (8, [some (.ref p)], st, w, k, n) = WP (MX1_copyOf g) Q (9, [some (.ref p)], .ref p :: st, w, k, n) := Eq.trans (WP_at (M := (MX1_copyOf g)) rfl dX1_copyOf_8 (Or.inr rfl)) rfl
theorem eX1_copyOf_8N : WP (MX1_copyOf g) Q (8, [some .null], st, w, k, n) = WP (MX1_copyOf g) Q (9, [some .null], .null :: st, w, k, n) := Eq.trans (WP_at (M := (MX1_copyOf g)) rfl dX1_copyOf_8 (Or.inr rfl)) rfl
theorem eX1_copyOf_9 : WP (MX1_copyOf g) Q (9, [l0], .ref p :: st, w, k, n) = go (rd g w p) 4 fun fs => ∃ v, fs[2]? = some v ∧ WP (MX1_copyOf g) Q (12, [l0], v :: st, w, k, n) := get_e rfl dX1_copyOf_9 rfl
theorem eX1_copyOf_12 : WP (MX1_copyOf g) Q (12, [some (.ref p)], st, w, k, n) = WP (MX1_copyOf g) Q (13, [some (.ref p)], .ref p :: st, w, k, n) := Eq.trans (WP_at (M := (MX1_copyOf g)) rfl dX1_copyOf_12 (Or.inr rfl)) rfl
theorem eX1_copyOf_12N : WP (MX1_copyOf g) Q (12, [some .null], st, w, k, n) = WP (MX1_copyOf g) Q (13, [some .null], .null :: st, w, k, n) := Eq.trans (WP_at (M := (MX1_copyOf g)) rfl dX1_copyOf_12 (Or.inr rfl)) rfl
theorem eX1_copyOf_13 : WP (MX1_copyOf g) Q (13, [l0], .ref p :: st, w, k, n) = go (rd g w p) 4 fun fs => ∃ v, fs[3]? = some v ∧ WP (MX1_copyOf g) Q (16, [l0], v :: st, w, k, n) := get_e rfl dX1_copyOf_13 rfl
theorem eX1_copyOf_16 {z0 : Int64} {z1 : Int64} {z2 : Int64} {z3 : Int64} : WP (MX1_copyOf g) Q (16, [l0], .long z3 :: .long z2 :: .long z1 :: .long z0 :: st, w, k, n) = (wt st ≤ 8 ∧ k + 1 ≤ 1 ∧ n + 4 ≤ 4 ∧ WP (MX0_ofFour g) (kx (fun v w' => WP (MX1_copyOf g) Q (19, [l0], v.toList ++ st, w', k + 1, n + 4)) (fun E w' => Q (.inr E) w')) (0, [some (.long z0), none, some (.long z1), none, some (.long z2), none, some (.long z3), none], [], w, 0, 0)) := csS (M := (MX1_copyOf g)) (mc := (fun _ _ => 1)) (ms := (fun _ _ => 4)) (As := [.long z0, .long z1, .long z2, .long z3]) (rest := st) (MX0_ofFour g) rfl rfl dX1_copyOf_16 (Nat.ne_of_beq_eq_false rfl) (by exact fun h => nomatch (show (none : Option Nat) = some 12 from h)) (by exact fun h => nomatch (show (none : Option Nat) = some 13 from h)) (by exact fun h => nomatch (show (none : Option Nat) = some 14 from h)) rfl rfl (by decide) (Nat.le_of_ble_eq_true rfl) (Nat.le_of_ble_eq_true rfl) rfl
theorem eX1_copyOf_19 : WP (MX1_copyOf g) Q (19, [l0], [.ref p], w, k, n) = (k ≤ 1 ∧ n ≤ 4 ∧ Q (.inl (some (.ref p))) w) := aretR_e rfl dX1_copyOf_19 rfl
theorem eX1_copyOf_19N : WP (MX1_copyOf g) Q (19, [l0], [.null], w, k, n) = (k ≤ 1 ∧ n ≤ 4 ∧ Q (.inl (some .null)) w) := aretN_e rfl dX1_copyOf_19 rfl
end
theorem vF_RX1_124 : vFld RX1 124 4 0 := ⟨RX0, TX0, 4, tyX0, "Rangecard$Range", rfl, by decide, iW_4, tyX0_ok, nmX0, Or.inl rfl, Or.inr (Or.inr ⟨rfl, by decide, ⟨"Rangecard", List.mem_of_getElem? (i := 160) (by decide +kernel)⟩⟩)⟩
theorem vF_RX1_117 : vFld RX1 117 4 1 := ⟨RX0, TX0, 4, tyX0, "Rangecard$Range", rfl, by decide, iW_4, tyX0_ok, nmX0, Or.inl rfl, Or.inr (Or.inr ⟨rfl, by decide, ⟨"Rangecard", List.mem_of_getElem? (i := 162) (by decide +kernel)⟩⟩)⟩
theorem vF_RX1_121 : vFld RX1 121 4 2 := ⟨RX0, TX0, 4, tyX0, "Rangecard$Range", rfl, by decide, iW_4, tyX0_ok, nmX0, Or.inl rfl, Or.inr (Or.inr ⟨rfl, by decide, ⟨"Rangecard", List.mem_of_getElem? (i := 164) (by decide +kernel)⟩⟩)⟩
theorem vF_RX1_127 : vFld RX1 127 4 3 := ⟨RX0, TX0, 4, tyX0, "Rangecard$Range", rfl, by decide, iW_4, tyX0_ok, nmX0, Or.inl rfl, Or.inr (Or.inr ⟨rfl, by decide, ⟨"Rangecard", List.mem_of_getElem? (i := 166) (by decide +kernel)⟩⟩)⟩
theorem vMX1_copyOf {l : Launch} (hl : l.stackTraces = false) (G : GT) : vM l G (MX1_copyOf (gg G)) := ⟨fun i c j h => lookup_all (l := (MX1_copyOf (gg G)).fld) (P := fun i e => vFld RX1 i e.1 e.2) (all_c (vF_RX1_124) (all_c (vF_RX1_117) (all_c (vF_RX1_121) (all_c (vF_RX1_127) (all_n))))) i (c, j) h, fun i c fs h => lookup_all (l := (MX1_copyOf (gg G)).new) (P := fun i e => vNew RX1 i e.1 e.2) (all_n) i (c, fs) h, lookup_all (l := (MX1_copyOf (gg G)).anew) (P := fun i e => vANew RX1 i e) (all_n), lookup_all (l := (MX1_copyOf (gg G)).lng) (P := fun i e => Jvm.Cond.constantLong RX1 i e ∈ WS) (all_n), lookup_all (l := (MX1_copyOf (gg G)).thr) (P := fun i e => vThr RX1 cX1_copyOf i e) (all_n), fun h => absurd rfl h, lookup_all (l := (MX1_copyOf (gg G)).cal) (P := fun i e => vCal l G RX1 i e) (all_c (⟨cX0_ofFour, 8, some (.object "Rangecard$Range"), fun y hy => by subst hy; exact ⟨by decide, ⟨_, wk_149, okX0_ofFour hl, Or.inl ⟨Nat.ne_of_beq_eq_false rfl, rfl⟩⟩, wk_84, ⟨(by decide : yX0_ofFour.cls ≠ "java/lang/invoke/MethodHandle"), (by decide : yX0_ofFour.cls ≠ "java/lang/invoke/VarHandle")⟩, ⟨(by decide +kernel : (parseMethodDescriptor yX0_ofFour.desc).map (fun d => d.parameters.length) = some 4), ⟨"Rangecard", List.mem_of_getElem? (i := 147) (by decide +kernel : lw_tbl[147]? = some (.methodLinkNest RX1 94 yX0_ofFour "Rangecard"))⟩, wk_148⟩⟩⟩) (all_n)), lookup_all (l := (MX1_copyOf (gg G)).stt) (P := fun i e => vStt G RX1 i e) (all_n), lookup_all (l := (MX1_copyOf (gg G)).cst) (P := fun i e => vCst RX1 i e) (all_n), fun h => absurd rfl h, rfl, all_n⟩
theorem okX1_copyOf {l : Launch} (hl : l.stackTraces = false) {G : GT} : ∀ (args : List Value) (w : Hw) (S : Ot → Hw → Prop), spOf (MX1_copyOf (gg G)) args w S → CX l G yX1_copyOf (.code yX1_copyOf cX1_copyOf 1 (some (.object "Rangecard$Range"))) 3 1 4 args w S := CX_sp (M := MX1_copyOf (gg G)) (y := yX1_copyOf) hl (by decide) rfl (vMX1_copyOf hl G) (fun h => by cases h) rfl
