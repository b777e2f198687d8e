/-! Rangecard.needNumber(I)V -/
theorem dX1_needNumber_0 : decode cX1_needNumber 0 = .ok (.iload_n 0, 1) := by decide +kernel
theorem dX1_needNumber_1 : decode cX1_needNumber 1 = .ok (.ifCond .lt 9, 3) := by decide +kernel
theorem dX1_needNumber_4 : decode cX1_needNumber 4 = .ok (.iload_n 0, 1) := by decide +kernel
theorem dX1_needNumber_5 : decode cX1_needNumber 5 = .ok (.bipush 8, 2) := by decide +kernel
theorem dX1_needNumber_7 : decode cX1_needNumber 7 = .ok (.if_icmp .lt 13, 3) := by decide +kernel
theorem dX1_needNumber_10 : decode cX1_needNumber 10 = .ok (.new 240, 3) := by decide +kernel
theorem dX1_needNumber_13 : decode cX1_needNumber 13 = .ok (.dup, 1) := by decide +kernel
theorem dX1_needNumber_14 : decode cX1_needNumber 14 = .ok (.ldc 242, 2) := by decide +kernel
theorem dX1_needNumber_16 : decode cX1_needNumber 16 = .ok (.invokespecial 244, 3) := by decide +kernel
theorem dX1_needNumber_19 : decode cX1_needNumber 19 = .ok (.athrow, 1) := by decide +kernel
theorem dX1_needNumber_20 : decode cX1_needNumber 20 = .ok (.return_, 1) := by decide +kernel
def MX1_needNumber (g : RO) : MT := ((RX1, cX1_needNumber, 1, 6, 1, 6, false, none), [], [], [], [], [(10, "java/lang/IndexOutOfBoundsException")], 0, [], [], [], 0, [], [], g)
section
variable {g : RO} {Q : Ot → Hw → Prop} {st : List Value} {w : Hw} {k n p q : Nat} {a b : Int32} {x y : Int64} {u v : Value} {l0 : Option Value}
theorem eX1_needNumber_0 : WP (MX1_needNumber g) Q (0, [some (.int a)], st, w, k, n) = WP (MX1_needNumber g) Q (1, [some (.int a)], .int a :: st, w, k, n) := Eq.trans (WP_at (M := (MX1_needNumber g)) rfl dX1_needNumber_0 (Or.inr rfl)) rfl
theorem eX1_needNumber_1 : WP (MX1_needNumber g) Q (1, [l0], .int a :: st, w, k, n) = if a < 0 then WP (MX1_needNumber g) Q (10, [l0], st, w, k, n) else WP (MX1_needNumber g) Q (4, [l0], st, w, k, n) := ifc_e (a < 0) rfl dX1_needNumber_1 rfl (by decide)
theorem eX1_needNumber_4 : WP (MX1_needNumber g) Q (4, [some (.int a)], st, w, k, n) = WP (MX1_needNumber g) Q (5, [some (.int a)], .int a :: st, w, k, n) := Eq.trans (WP_at (M := (MX1_needNumber g)) rfl dX1_needNumber_4 (Or.inr rfl)) rfl
theorem eX1_needNumber_5 : WP (MX1_needNumber g) Q (5, [l0], st, w, k, n) = WP (MX1_needNumber g) Q (7, [l0], .int 8 :: st, w, k, n) := bipush_e rfl dX1_needNumber_5 (by decide)
theorem eX1_needNumber_7 : WP (MX1_needNumber g) Q (7, [l0], .int b :: .int a :: st, w, k, n) = if a < b then WP (MX1_needNumber g) Q (20, [l0], st, w, k, n) else WP (MX1_needNumber g) Q (10, [l0], st, w, k, n) := icm_e (a < b) rfl dX1_needNumber_7 rfl (by decide)
theorem eX1_needNumber_10 : WP (MX1_needNumber g) Q (10, [l0], st, w, k, n) = (k + 1 ≤ 1 ∧ n + 6 ≤ 6 ∧ wt st ≤ 8 ∧ 6 ≤ 6 ∧ Q (.inr "java/lang/IndexOutOfBoundsException") w) := WP_thr rfl rfl
theorem eX1_needNumber_20 : WP (MX1_needNumber g) Q (20, [l0], [], w, k, n) = (k ≤ 1 ∧ n ≤ 6 ∧ Q (.inl none) w) := vret_e rfl dX1_needNumber_20 rfl
end
theorem vX_RX1_240_244 : ∀ w ∈ vx_atS RX1 244 "java/lang/IndexOutOfBoundsException" exNames, ((w ∈ lw_tbl ∧ (goodWord w || isNW w) = true) ∨ w = .castable "java/lang/IndexOutOfBoundsException" "java/lang/IndexOutOfBoundsException") ∧ vx_ot w = true := by decide +kernel
theorem wk_356 : (.classLink RX1 240 "java/lang/IndexOutOfBoundsException" : Jvm.Cond) ∈ WS := WS_at 356 (by decide +kernel) rfl
theorem wk_72 : (.initialized "java/lang/IndexOutOfBoundsException" : Jvm.Cond) ∈ WS := WS_at 72 (by decide +kernel) rfl
theorem vMX1_needNumber {l : Launch} (hl : l.stackTraces = false) (G : GT) : vM l G (MX1_needNumber (gg G)) := ⟨fun i c j h => lookup_all (l := (MX1_needNumber (gg G)).fld) (P := fun i e => vFld RX1 i e.1 e.2) (all_n) i (c, j) h, fun i c fs h => lookup_all (l := (MX1_needNumber (gg G)).new) (P := fun i e => vNew RX1 i e.1 e.2) (all_n) i (c, fs) h, lookup_all (l := (MX1_needNumber (gg G)).anew) (P := fun i e => vANew RX1 i e) (all_n), lookup_all (l := (MX1_needNumber (gg G)).lng) (P := fun i e => Jvm.Cond.constantLong RX1 i e ∈ WS) (all_n), lookup_all (l := (MX1_needNumber (gg G)).thr) (P := fun i e => vThr RX1 cX1_needNumber i e) (all_c (⟨240, 242, 244, "no such number", by decide, by decide +kernel, wk_356, wk_72, vX_RX1_240_244, by decide, dX1_needNumber_10, dX1_needNumber_13, dX1_needNumber_14, dX1_needNumber_16, dX1_needNumber_19⟩) (all_n)), fun h => absurd rfl h, lookup_all (l := (MX1_needNumber (gg G)).cal) (P := fun i e => vCal l G RX1 i e) (all_n), lookup_all (l := (MX1_needNumber (gg G)).stt) (P := fun i e => vStt G RX1 i e) (all_n), lookup_all (l := (MX1_needNumber (gg G)).cst) (P := fun i e => vCst RX1 i e) (all_n), fun h => absurd rfl h, rfl, all_n⟩
theorem okX1_needNumber {l : Launch} (hl : l.stackTraces = false) {G : GT} : ∀ (args : List Value) (w : Hw) (S : Ot → Hw → Prop), spOf (MX1_needNumber (gg G)) args w S → CX l G yX1_needNumber (.code yX1_needNumber cX1_needNumber 1 (none)) 6 1 6 args w S := CX_sp (M := MX1_needNumber (gg G)) (y := yX1_needNumber) hl (by decide) rfl (vMX1_needNumber hl G) (fun h => by cases h) rfl
/-! Rangecard.needCard(I)V -/
theorem dX1_needCard_0 : decode cX1_needCard 0 = .ok (.iload_n 0, 1) := by decide +kernel
theorem dX1_needCard_1 : decode cX1_needCard 1 = .ok (.ifCond .lt 9, 3) := by decide +kernel
theorem dX1_needCard_4 : decode cX1_needCard 4 = .ok (.iload_n 0, 1) := by decide +kernel
theorem dX1_needCard_5 : decode cX1_needCard 5 = .ok (.bipush 6, 2) := by decide +kernel
theorem dX1_needCard_7 : decode cX1_needCard 7 = .ok (.if_icmp .lt 13, 3) := by decide +kernel
theorem dX1_needCard_10 : decode cX1_needCard 10 = .ok (.new 240, 3) := by decide +kernel
theorem dX1_needCard_13 : decode cX1_needCard 13 = .ok (.dup, 1) := by decide +kernel
theorem dX1_needCard_14 : decode cX1_needCard 14 = .ok (.ldc 245, 2) := by decide +kernel
theorem dX1_needCard_16 : decode cX1_needCard 16 = .ok (.invokespecial 244, 3) := by decide +kernel
theorem dX1_needCard_19 : decode cX1_needCard 19 = .ok (.athrow, 1) := by decide +kernel
theorem dX1_needCard_20 : decode cX1_needCard 20 = .ok (.return_, 1) := by decide +kernel
def MX1_needCard (g : RO) : MT := ((RX1, cX1_needCard, 1, 6, 1, 6, false, none), [], [], [], [], [(10, "java/lang/IndexOutOfBoundsException")], 0, [], [], [], 0, [], [], g)
section
variable {g : RO} {Q : Ot → Hw → Prop} {st : List Value} {w : Hw} {k n p q : Nat} {a b : Int32} {x y : Int64} {u v : Value} {l0 : Option Value}
theorem eX1_needCard_0 : WP (MX1_needCard g) Q (0, [some (.int a)], st, w, k, n) = WP (MX1_needCard g) Q (1, [some (.int a)], .int a :: st, w, k, n) := Eq.trans (WP_at (M := (MX1_needCard g)) rfl dX1_needCard_0 (Or.inr rfl)) rfl
theorem eX1_needCard_1 : WP (MX1_needCard g) Q (1, [l0], .int a :: st, w, k, n) = if a < 0 then WP (MX1_needCard g) Q (10, [l0], st, w, k, n) else WP (MX1_needCard g) Q (4, [l0], st, w, k, n) := ifc_e (a < 0) rfl dX1_needCard_1 rfl (by decide)
theorem eX1_needCard_4 : WP (MX1_needCard g) Q (4, [some (.int a)], st, w, k, n) = WP (MX1_needCard g) Q (5, [some (.int a)], .int a :: st, w, k, n) := Eq.trans (WP_at (M := (MX1_needCard g)) rfl dX1_needCard_4 (Or.inr rfl)) rfl
theorem eX1_needCard_5 : WP (MX1_needCard g) Q (5, [l0], st, w, k, n) = WP (MX1_needCard g) Q (7, [l0], .int 6 :: st, w, k, n) := bipush_e rfl dX1_needCard_5 (by decide)
theorem eX1_needCard_7 : WP (MX1_needCard g) Q (7, [l0], .int b :: .int a :: st, w, k, n) = if a < b then WP (MX1_needCard g) Q (20, [l0], st, w, k, n) else WP (MX1_needCard g) Q (10, [l0], st, w, k, n) := icm_e (a < b) rfl dX1_needCard_7 rfl (by decide)
theorem eX1_needCard_10 : WP (MX1_needCard g) Q (10, [l0], st, w, k, n) = (k + 1 ≤ 1 ∧ n + 6 ≤ 6 ∧ wt st ≤ 8 ∧ 6 ≤ 6 ∧ Q (.inr "java/lang/IndexOutOfBoundsException") w) := WP_thr rfl rfl
theorem eX1_needCard_20 : WP (MX1_needCard g) Q (20, [l0], [], w, k, n) = (k ≤ 1 ∧ n ≤ 6 ∧ Q (.inl none) w) := vret_e rfl dX1_needCard_20 rfl
end
theorem vMX1_needCard {l : Launch} (hl : l.stackTraces = false) (G : GT) : vM l G (MX1_needCard (gg G)) := ⟨fun i c j h => lookup_all (l := (MX1_needCard (gg G)).fld) (P := fun i e => vFld RX1 i e.1 e.2) (all_n) i (c, j) h, fun i c fs h => lookup_all (l := (MX1_needCard (gg G)).new) (P := fun i e => vNew RX1 i e.1 e.2) (all_n) i (c, fs) h, lookup_all (l := (MX1_needCard (gg G)).anew) (P := fun i e => vANew RX1 i e) (all_n), lookup_all (l := (MX1_needCard (gg G)).lng) (P := fun i e => Jvm.Cond.constantLong RX1 i e ∈ WS) (all_n), lookup_all (l := (MX1_needCard (gg G)).thr) (P := fun i e => vThr RX1 cX1_needCard i e) (all_c (⟨240, 245, 244, "no such card", by decide, by decide +kernel, wk_356, wk_72, vX_RX1_240_244, by decide, dX1_needCard_10, dX1_needCard_13, dX1_needCard_14, dX1_needCard_16, dX1_needCard_19⟩) (all_n)), fun h => absurd rfl h, lookup_all (l := (MX1_needCard (gg G)).cal) (P := fun i e => vCal l G RX1 i e) (all_n), lookup_all (l := (MX1_needCard (gg G)).stt) (P := fun i e => vStt G RX1 i e) (all_n), lookup_all (l := (MX1_needCard (gg G)).cst) (P := fun i e => vCst RX1 i e) (all_n), fun h => absurd rfl h, rfl, all_n⟩
theorem okX1_needCard {l : Launch} (hl : l.stackTraces = false) {G : GT} : ∀ (args : List Value) (w : Hw) (S : Ot → Hw → Prop), spOf (MX1_needCard (gg G)) args w S → CX l G yX1_needCard (.code yX1_needCard cX1_needCard 1 (none)) 6 1 6 args w S := CX_sp (M := MX1_needCard (gg G)) (y := yX1_needCard) hl (by decide) rfl (vMX1_needCard hl G) (fun h => by cases h) rfl
/-! Rangecard.needPlace(I)V -/
theorem dX1_needPlace_0 : decode cX1_needPlace 0 = .ok (.iload_n 1, 1) := by decide +kernel
theorem dX1_needPlace_1 : decode cX1_needPlace 1 = .ok (.ifCond .lt 11, 3) := by decide +kernel
theorem dX1_needPlace_4 : decode cX1_needPlace 4 = .ok (.iload_n 1, 1) := by decide +kernel
theorem dX1_needPlace_5 : decode cX1_needPlace 5 = .ok (.aload_n 0, 1) := by decide +kernel
theorem dX1_needPlace_6 : decode cX1_needPlace 6 = .ok (.getfield 22, 3) := by decide +kernel
theorem dX1_needPlace_9 : decode cX1_needPlace 9 = .ok (.if_icmp .lt 13, 3) := by decide +kernel
theorem dX1_needPlace_12 : decode cX1_needPlace 12 = .ok (.new 240, 3) := by decide +kernel
theorem dX1_needPlace_15 : decode cX1_needPlace 15 = .ok (.dup, 1) := by decide +kernel
theorem dX1_needPlace_16 : decode cX1_needPlace 16 = .ok (.ldc 247, 2) := by decide +kernel
theorem dX1_needPlace_18 : decode cX1_needPlace 18 = .ok (.invokespecial 244, 3) := by decide +kernel
theorem dX1_needPlace_21 : decode cX1_needPlace 21 = .ok (.athrow, 1) := by decide +kernel
theorem dX1_needPlace_22 : decode cX1_needPlace 22 = .ok (.return_, 1) := by decide +kernel
def MX1_needPlace (g : RO) : MT := ((RX1, cX1_needPlace, 2, 6, 1, 6, false, none), [(22, 5, 3)], [], [], [], [(12, "java/lang/IndexOutOfBoundsException")], 0, [], [], [], 0, [], [], g)
section
variable {g : RO} {Q : Ot → Hw → Prop} {st : List Value} {w : Hw} {k n p q : Nat} {a b : Int32} {x y : Int64} {u v : Value} {l0 l1 : Option Value}
theorem eX1_needPlace_0 : WP (MX1_needPlace g) Q (0, [l0, some (.int a)], st, w, k, n) = WP (MX1_needPlace g) Q (1, [l0, some (.int a)], .int a :: st, w, k, n) := Eq.trans (WP_at (M := (MX1_needPlace g)) rfl dX1_needPlace_0 (Or.inr rfl)) rfl
theorem eX1_needPlace_1 : WP (MX1_needPlace g) Q (1, [l0, l1], .int a :: st, w, k, n) = if a < 0 then WP (MX1_needPlace g) Q (12, [l0, l1], st, w, k, n) else WP (MX1_needPlace g) Q (4, [l0, l1], st, w, k, n) := ifc_e (a < 0) rfl dX1_needPlace_1 rfl (by decide)
theorem eX1_needPlace_4 : WP (MX1_needPlace g) Q (4, [l0, some (.int a)], st, w, k, n) = WP (MX1_needPlace g) Q (5, [l0, some (.int a)], .int a :: st, w, k, n) := Eq.trans (WP_at (M := (MX1_needPlace g)) rfl dX1_needPlace_4 (Or.inr rfl)) rfl
theorem eX1_needPlace_5 : WP (MX1_needPlace g) Q (5, [some (.ref p), l1], st, w, k, n) = WP (MX1_needPlace g) Q (6, [some (.ref p), l1], .ref p :: st, w, k, n) := Eq.trans (WP_at (M := (MX1_needPlace g)) rfl dX1_needPlace_5 (Or.inr rfl)) rfl
theorem eX1_needPlace_5N : WP (MX1_needPlace g) Q (5, [some .null, l1], st, w, k, n) = WP (MX1_needPlace g) Q (6, [some .null, l1], .null :: st, w, k, n) := Eq.trans (WP_at (M := (MX1_needPlace g)) rfl dX1_needPlace_5 (Or.inr rfl)) rfl
theorem eX1_needPlace_6 : WP (MX1_needPlace g) Q (6, [l0, l1], .ref p :: st, w, k, n) = go (rd g w p) 5 fun fs => ∃ v, fs[3]? = some v ∧ WP (MX1_needPlace g) Q (9, [l0, l1], v :: st, w, k, n) := get_e rfl dX1_needPlace_6 rfl
theorem eX1_needPlace_9 : WP (MX1_needPlace g) Q (9, [l0, l1], .int b :: .int a :: st, w, k, n) = if a < b then WP (MX1_needPlace g) Q (22, [l0, l1], st, w, k, n) else WP (MX1_needPlace g) Q (12, [l0, l1], st, w, k, n) := icm_e (a < b) rfl dX1_needPlace_9 rfl (by decide)
theorem eX1_needPlace_12 : WP (MX1_needPlace g) Q (12, [l0, l1], st, w, k, n) = (k + 1 ≤ 1 ∧ n + 6 ≤ 6 ∧ wt st ≤ 8 ∧ 6 ≤ 6 ∧ Q (.inr "java/lang/IndexOutOfBoundsException") w) := WP_thr rfl rfl
theorem eX1_needPlace_22 : WP (MX1_needPlace g) Q (22, [l0, l1], [], w, k, n) = (k ≤ 1 ∧ n ≤ 6 ∧ Q (.inl none) w) := vret_e rfl dX1_needPlace_22 rfl
end
theorem iW_5 : ∀ w ∈ u_ws RX1 TX1 7, w ∈ WS := fun w h => (fun q => WS_in q.1 q.2) ((show ∀ w ∈ u_ws RX1 TX1 7, w ∈ lw_tbl ∧ goodWord w = true by decide +kernel) w h)
theorem wk_101 : (.fieldLink RX1 22 "Rangecard" "laidCount" "I" : Jvm.Cond) ∈ WS := WS_at 101 (by decide +kernel) rfl
theorem vF_RX1_22 : vFld RX1 22 5 3 := ⟨RX1, TX1, 7, tyX1, "Rangecard", rfl, by decide, iW_5, tyX1_ok, nmX1, Or.inl rfl, Or.inl wk_101⟩
theorem vMX1_needPlace {l : Launch} (hl : l.stackTraces = false) (G : GT) : vM l G (MX1_needPlace (gg G)) := ⟨fun i c j h => lookup_all (l := (MX1_needPlace (gg G)).fld) (P := fun i e => vFld RX1 i e.1 e.2) (all_c (vF_RX1_22) (all_n)) i (c, j) h, fun i c fs h => lookup_all (l := (MX1_needPlace (gg G)).new) (P := fun i e => vNew RX1 i e.1 e.2) (all_n) i (c, fs) h, lookup_all (l := (MX1_needPlace (gg G)).anew) (P := fun i e => vANew RX1 i e) (all_n), lookup_all (l := (MX1_needPlace (gg G)).lng) (P := fun i e => Jvm.Cond.constantLong RX1 i e ∈ WS) (all_n), lookup_all (l := (MX1_needPlace (gg G)).thr) (P := fun i e => vThr RX1 cX1_needPlace i e) (all_c (⟨240, 247, 244, "no such place", by decide, by decide +kernel, wk_356, wk_72, vX_RX1_240_244, by decide, dX1_needPlace_12, dX1_needPlace_15, dX1_needPlace_16, dX1_needPlace_18, dX1_needPlace_21⟩) (all_n)), fun h => absurd rfl h, lookup_all (l := (MX1_needPlace (gg G)).cal) (P := fun i e => vCal l G RX1 i e) (all_n), lookup_all (l := (MX1_needPlace (gg G)).stt) (P := fun i e => vStt G RX1 i e) (all_n), lookup_all (l := (MX1_needPlace (gg G)).cst) (P := fun i e => vCst RX1 i e) (all_n), fun h => absurd rfl h, rfl, all_n⟩
theorem okX1_needPlace {l : Launch} (hl : l.stackTraces = false) {G : GT} : ∀ (args : List Value) (w : Hw) (S : Ot → Hw → Prop), spOf (MX1_needPlace (gg G)) args w S → CX l G yX1_needPlace (.code yX1_needPlace cX1_needPlace 2 (none)) 6 1 6 args w S := CX_sp (M := MX1_needPlace (gg G)) (y := yX1_needPlace) hl (by decide) rfl (vMX1_needPlace hl G) (fun h => by cases h) rfl
/-! Rangecard.needChoice(II)V -/
theorem dX1_needChoice_0 : decode cX1_needChoice 0 = .ok (.iload_n 0, 1) := by decide +kernel
theorem dX1_needChoice_1 : decode cX1_needChoice 1 = .ok (.ifCond .lt 8, 3) := by decide +kernel
theorem dX1_needChoice_4 : decode cX1_needChoice 4 = .ok (.iload_n 0, 1) := by decide +kernel
theorem dX1_needChoice_5 : decode cX1_needChoice 5 = .ok (.iload_n 1, 1) := by decide +kernel
theorem dX1_needChoice_6 : decode cX1_needChoice 6 = .ok (.if_icmp .le 13, 3) := by decide +kernel
theorem dX1_needChoice_9 : decode cX1_needChoice 9 = .ok (.new 165, 3) := by decide +kernel
theorem dX1_needChoice_12 : decode cX1_needChoice 12 = .ok (.dup, 1) := by decide +kernel
theorem dX1_needChoice_13 : decode cX1_needChoice 13 = .ok (.ldc 249, 2) := by decide +kernel
theorem dX1_needChoice_15 : decode cX1_needChoice 15 = .ok (.invokespecial 169, 3) := by decide +kernel
theorem dX1_needChoice_18 : decode cX1_needChoice 18 = .ok (.athrow, 1) := by decide +kernel
theorem dX1_needChoice_19 : decode cX1_needChoice 19 = .ok (.return_, 1) := by decide +kernel
def MX1_needChoice (g : RO) : MT := ((RX1, cX1_needChoice, 2, 6, 1, 6, false, none), [], [], [], [], [(9, "java/lang/IllegalArgumentException")], 0, [], [], [], 0, [], [], g)
section
variable {g : RO} {Q : Ot → Hw → Prop} {st : List Value} {w : Hw} {k n p q : Nat} {a b : Int32} {x y : Int64} {u v : Value} {l0 l1 : Option Value}
theorem eX1_needChoice_0 : WP (MX1_needChoice g) Q (0, [some (.int a), l1], st, w, k, n) = WP (MX1_needChoice g) Q (1, [some (.int a), l1], .int a :: st, w, k, n) := Eq.trans (WP_at (M := (MX1_needChoice g)) rfl dX1_needChoice_0 (Or.inr rfl)) rfl
theorem eX1_needChoice_1 : WP (MX1_needChoice g) Q (1, [l0, l1], .int a :: st, w, k, n) = if a < 0 then WP (MX1_needChoice g) Q (9, [l0, l1], st, w, k, n) else WP (MX1_needChoice g) Q (4, [l0, l1], st, w, k, n) := ifc_e (a < 0) rfl dX1_needChoice_1 rfl (by decide)
theorem eX1_needChoice_4 : WP (MX1_needChoice g) Q (4, [some (.int a), l1], st, w, k, n) = WP (MX1_needChoice g) Q (5, [some (.int a), l1], .int a :: st, w, k, n) := Eq.trans (WP_at (M := (MX1_needChoice g)) rfl dX1_needChoice_4 (Or.inr rfl)) rfl
theorem eX1_needChoice_5 : WP (MX1_needChoice g) Q (5, [l0, some (.int a)], st, w, k, n) = WP (MX1_needChoice g) Q (6, [l0, some (.int a)], .int a :: st, w, k, n) := Eq.trans (WP_at (M := (MX1_needChoice g)) rfl dX1_needChoice_5 (Or.inr rfl)) rfl
theorem eX1_needChoice_6 : WP (MX1_needChoice g) Q (6, [l0, l1], .int b :: .int a :: st, w, k, n) = if a ≤ b then WP (MX1_needChoice g) Q (19, [l0, l1], st, w, k, n) else WP (MX1_needChoice g) Q (9, [l0, l1], st, w, k, n) := icm_e (a ≤ b) rfl dX1_needChoice_6 rfl (by decide)
theorem eX1_needChoice_9 : WP (MX1_needChoice g) Q (9, [l0, l1], st, w, k, n) = (k + 1 ≤ 1 ∧ n + 6 ≤ 6 ∧ wt st ≤ 8 ∧ 6 ≤ 6 ∧ Q (.inr "java/lang/IllegalArgumentException") w) := WP_thr rfl rfl
theorem eX1_needChoice_19 : WP (MX1_needChoice g) Q (19, [l0, l1], [], w, k, n) = (k ≤ 1 ∧ n ≤ 6 ∧ Q (.inl none) w) := vret_e rfl dX1_needChoice_19 rfl
end
theorem vX_RX1_165_169 : ∀ w ∈ vx_atS RX1 169 "java/lang/IllegalArgumentException" exNames, ((w ∈ lw_tbl ∧ (goodWord w || isNW w) = true) ∨ w = .castable "java/lang/IllegalArgumentException" "java/lang/IllegalArgumentException") ∧ vx_ot w = true := by decide +kernel
theorem wk_443 : (.classLink RX1 165 "java/lang/IllegalArgumentException" : Jvm.Cond) ∈ WS := WS_at 443 (by decide +kernel) rfl
theorem wk_73 : (.initialized "java/lang/IllegalArgumentException" : Jvm.Cond) ∈ WS := WS_at 73 (by decide +kernel) rfl
theorem vMX1_needChoice {l : Launch} (hl : l.stackTraces = false) (G : GT) : vM l G (MX1_needChoice (gg G)) := ⟨fun i c j h => lookup_all (l := (MX1_needChoice (gg G)).fld) (P := fun i e => vFld RX1 i e.1 e.2) (all_n) i (c, j) h, fun i c fs h => lookup_all (l := (MX1_needChoice (gg G)).new) (P := fun i e => vNew RX1 i e.1 e.2) (all_n) i (c, fs) h, lookup_all (l := (MX1_needChoice (gg G)).anew) (P := fun i e => vANew RX1 i e) (all_n), lookup_all (l := (MX1_needChoice (gg G)).lng) (P := fun i e => Jvm.Cond.constantLong RX1 i e ∈ WS) (all_n), lookup_all (l := (MX1_needChoice (gg G)).thr) (P := fun i e => vThr RX1 cX1_needChoice i e) (all_c (⟨165, 249, 169, "no such what", by decide, by decide +kernel, wk_443, wk_73, vX_RX1_165_169, by decide, dX1_needChoice_9, dX1_needChoice_12, dX1_needChoice_13, dX1_needChoice_15, dX1_needChoice_18⟩) (all_n)), fun h => absurd rfl h, lookup_all (l := (MX1_needChoice (gg G)).cal) (P := fun i e => vCal l G RX1 i e) (all_n), lookup_all (l := (MX1_needChoice (gg G)).stt) (P := fun i e => vStt G RX1 i e) (all_n), lookup_all (l := (MX1_needChoice (gg G)).cst) (P := fun i e => vCst RX1 i e) (all_n), fun h => absurd rfl h, rfl, all_n⟩
theorem okX1_needChoice {l : Launch} (hl : l.stackTraces = false) {G : GT} : ∀ (args : List Value) (w : Hw) (S : Ot → Hw → Prop), spOf (MX1_needChoice (gg G)) args w S → CX l G yX1_needChoice (.code yX1_needChoice cX1_needChoice 2 (none)) 6 1 6 args w S := CX_sp (M := MX1_needChoice (gg G)) (y := yX1_needChoice) hl (by decide) rfl (vMX1_needChoice hl G) (fun h => by cases h) rfl
/-! Rangecard.rangeOf(I)LRangecard$Range; -/
theorem dX1_rangeOf_0 : decode cX1_rangeOf 0 = .ok (.iload_n 1, 1) := by decide +kernel
theorem dX1_rangeOf_1 : decode cX1_rangeOf 1 = .ok (.invokestatic 79, 3) := by decide +kernel
theorem dX1_rangeOf_4 : decode cX1_rangeOf 4 = .ok (.aload_n 0, 1) := by decide +kernel
theorem dX1_rangeOf_5 : decode cX1_rangeOf 5 = .ok (.getfield 15, 3) := by decide +kernel
theorem dX1_rangeOf_8 : decode cX1_rangeOf 8 = .ok (.iload_n 1, 1) := by decide +kernel
theorem dX1_rangeOf_9 : decode cX1_rangeOf 9 = .ok (.aaload, 1) := by decide +kernel
theorem dX1_rangeOf_10 : decode cX1_rangeOf 10 = .ok (.astore_n 2, 1) := by decide +kernel
theorem dX1_rangeOf_11 : decode cX1_rangeOf 11 = .ok (.aload_n 2, 1) := by decide +kernel
theorem dX1_rangeOf_12 : decode cX1_rangeOf 12 = .ok (.ifnonnull 13, 3) := by decide +kernel
theorem dX1_rangeOf_15 : decode cX1_rangeOf 15 = .ok (.new 251, 3) := by decide +kernel
theorem dX1_rangeOf_18 : decode cX1_rangeOf 18 = .ok (.dup, 1) := by decide +kernel
theorem dX1_rangeOf_19 : decode cX1_rangeOf 19 = .ok (.ldc 253, 2) := by decide +kernel
theorem dX1_rangeOf_21 : decode cX1_rangeOf 21 = .ok (.invokespecial 255, 3) := by decide +kernel
theorem dX1_rangeOf_24 : decode cX1_rangeOf 24 = .ok (.athrow, 1) := by decide +kernel
theorem dX1_rangeOf_25 : decode cX1_rangeOf 25 = .ok (.aload_n 2, 1) := by decide +kernel
theorem dX1_rangeOf_26 : decode cX1_rangeOf 26 = .ok (.areturn, 1) := by decide +kernel
def MX1_rangeOf (g : RO) : MT := ((RX1, cX1_rangeOf, 3, 7, 2, 12, false, some (.object "Rangecard$Range")), [(15, 5, 1)], [], [], [], [(15, "java/lang/IllegalStateException")], 0, [(79, 0, 1, 0, 6, (fun _ _ => 1), (fun _ _ => 6), yX1_needCard, spOf (MX1_needCard g))], [], [], 0, [], [], g)
section
variable {g : RO} {Q : Ot → Hw → Prop} {st : List Value} {w : Hw} {k n p q : Nat} {a b : Int32} {x y : Int64} {u v : Value} {l0 l1 l2 : Option Value}
theorem eX1_rangeOf_0 : WP (MX1_rangeOf g) Q (0, [l0, some (.int a), l2], st, w, k, n) = WP (MX1_rangeOf g) Q (1, [l0, some (.int a), l2], .int a :: st, w, k, n) := Eq.trans (WP_at (M := (MX1_rangeOf g)) rfl dX1_rangeOf_0 (Or.inr rfl)) rfl
theorem eX1_rangeOf_1 {z0 : Int32} : WP (MX1_rangeOf g) Q (1, [l0, l1, l2], .int z0 :: st, w, k, n) = (wt st ≤ 8 ∧ k + 1 ≤ 2 ∧ n + 6 ≤ 12 ∧ WP (MX1_needCard g) (kx (fun v w' => WP (MX1_rangeOf g) Q (4, [l0, l1, l2], v.toList ++ st, w', k + 1, n + 6)) (fun E w' => Q (.inr E) w')) (0, [some (.int z0)], [], w, 0, 0)) := csS (M := (MX1_rangeOf g)) (mc := (fun _ _ => 1)) (ms := (fun _ _ => 6)) (As := [.int z0]) (rest := st) (MX1_needCard g) rfl rfl dX1_rangeOf_1 (Nat.ne_of_beq_eq_false rfl) (by exact fun h => nomatch (show (none : Option Nat) = some 12 from h)) (by exact fun h => nomatch (show (none : Option Nat) = some 13 from h)) (by exact fun h => nomatch (show (none : Option Nat) = some 14 from h)) rfl rfl (by decide) (Nat.le_of_ble_eq_true rfl) (Nat.le_of_ble_eq_true rfl) rfl
theorem eX1_rangeOf_4 : WP (MX1_rangeOf g) Q (4, [some (.ref p), l1, l2], st, w, k, n) = WP (MX1_rangeOf g) Q (5, [some (.ref p), l1, l2], .ref p :: st, w, k, n) := Eq.trans (WP_at (M := (MX1_rangeOf g)) rfl dX1_rangeOf_4 (Or.inr rfl)) rfl
theorem eX1_rangeOf_4N : WP (MX1_rangeOf g) Q (4, [some .null, l1, l2], st, w, k, n) = WP (MX1_rangeOf g) Q (5, [some .null, l1, l2], .null :: st, w, k, n) := Eq.trans (WP_at (M := (MX1_rangeOf g)) rfl dX1_rangeOf_4 (Or.inr rfl)) rfl
theorem eX1_rangeOf_5 : WP (MX1_rangeOf g) Q (5, [l0, l1, l2], .ref p :: st, w, k, n) = go (rd g w p) 5 fun fs => ∃ v, fs[1]? = some v ∧ WP (MX1_rangeOf g) Q (8, [l0, l1, l2], v :: st, w, k, n) := get_e rfl dX1_rangeOf_5 rfl
theorem eX1_rangeOf_8 : WP (MX1_rangeOf g) Q (8, [l0, some (.int a), l2], st, w, k, n) = WP (MX1_rangeOf g) Q (9, [l0, some (.int a), l2], .int a :: st, w, k, n) := Eq.trans (WP_at (M := (MX1_rangeOf g)) rfl dX1_rangeOf_8 (Or.inr rfl)) rfl
theorem eX1_rangeOf_9 : WP (MX1_rangeOf g) Q (9, [l0, l1, l2], .int a :: .ref p :: st, w, k, n) = gq (rd g w p) fun t N f => (t = 4 ∨ t = 5) ∧ vp_in a N ∧ WP (MX1_rangeOf g) Q (10, [l0, l1, l2], va_rf (f a.toNatClampNeg) :: st, w, k, n) := Eq.trans (WP_at (M := (MX1_rangeOf g)) rfl dX1_rangeOf_9 (Or.inr rfl)) rfl
theorem eX1_rangeOf_10 : WP (MX1_rangeOf g) Q (10, [l0, l1, l2], .ref p :: st, w, k, n) = WP (MX1_rangeOf g) Q (11, [l0, nl l1, some (.ref p)], st, w, k, n) := by rw [WP_at (M := (MX1_rangeOf g)) rfl dX1_rangeOf_10 (Or.inr rfl)]; exact and_t (Nat.le_of_ble_eq_true rfl)
theorem eX1_rangeOf_10N : WP (MX1_rangeOf g) Q (10, [l0, l1, l2], .null :: st, w, k, n) = WP (MX1_rangeOf g) Q (11, [l0, nl l1, some (.null)], st, w, k, n) := by rw [WP_at (M := (MX1_rangeOf g)) rfl dX1_rangeOf_10 (Or.inr rfl)]; exact and_t (Nat.le_of_ble_eq_true rfl)
theorem eX1_rangeOf_11 : WP (MX1_rangeOf g) Q (11, [l0, l1, some (.ref p)], st, w, k, n) = WP (MX1_rangeOf g) Q (12, [l0, l1, some (.ref p)], .ref p :: st, w, k, n) := Eq.trans (WP_at (M := (MX1_rangeOf g)) rfl dX1_rangeOf_11 (Or.inr rfl)) rfl
theorem eX1_rangeOf_11N : WP (MX1_rangeOf g) Q (11, [l0, l1, some .null], st, w, k, n) = WP (MX1_rangeOf g) Q (12, [l0, l1, some .null], .null :: st, w, k, n) := Eq.trans (WP_at (M := (MX1_rangeOf g)) rfl dX1_rangeOf_11 (Or.inr rfl)) rfl
theorem eX1_rangeOf_12R : WP (MX1_rangeOf g) Q (12, [l0, l1, l2], .ref p :: st, w, k, n) = WP (MX1_rangeOf g) Q (25, [l0, l1, l2], st, w, k, n) := ifnonnullR_e rfl dX1_rangeOf_12 (tgt := 25) (by decide)
theorem eX1_rangeOf_12N : WP (MX1_rangeOf g) Q (12, [l0, l1, l2], .null :: st, w, k, n) = WP (MX1_rangeOf g) Q (15, [l0, l1, l2], st, w, k, n) := ifnonnullN_e rfl dX1_rangeOf_12 (tgt := 25) (by decide)
theorem eX1_rangeOf_15 : WP (MX1_rangeOf g) Q (15, [l0, l1, l2], st, w, k, n) = (k + 1 ≤ 2 ∧ n + 6 ≤ 12 ∧ wt st ≤ 8 ∧ 6 ≤ 7 ∧ Q (.inr "java/lang/IllegalStateException") w) := WP_thr rfl rfl
theorem eX1_rangeOf_25 : WP (MX1_rangeOf g) Q (25, [l0, l1, some (.ref p)], st, w, k, n) = WP (MX1_rangeOf g) Q (26, [l0, l1, some (.ref p)], .ref p :: st, w, k, n) := Eq.trans (WP_at (M := (MX1_rangeOf g)) rfl dX1_rangeOf_25 (Or.inr rfl)) rfl
theorem eX1_rangeOf_25N : WP (MX1_rangeOf g) Q (25, [l0, l1, some .null], st, w, k, n) = WP (MX1_rangeOf g) Q (26, [l0, l1, some .null], .null :: st, w, k, n) := Eq.trans (WP_at (M := (MX1_rangeOf g)) rfl dX1_rangeOf_25 (Or.inr rfl)) rfl
theorem eX1_rangeOf_26 : WP (MX1_rangeOf g) Q (26, [l0, l1, l2], [.ref p], w, k, n) = (k ≤ 2 ∧ n ≤ 12 ∧ Q (.inl (some (.ref p))) w) := aretR_e rfl dX1_rangeOf_26 rfl
theorem eX1_rangeOf_26N : WP (MX1_rangeOf g) Q (26, [l0, l1, l2], [.null], w, k, n) = (k ≤ 2 ∧ n ≤ 12 ∧ Q (.inl (some .null)) w) := aretN_e rfl dX1_rangeOf_26 rfl
end
theorem wk_99 : (.fieldLink RX1 15 "Rangecard" "cards" "[LRangecard$Range;" : Jvm.Cond) ∈ WS := WS_at 99 (by decide +kernel) rfl
theorem vF_RX1_15 : vFld RX1 15 5 1 := ⟨RX1, TX1, 7, tyX1, "Rangecard", rfl, by decide, iW_5, tyX1_ok, nmX1, Or.inl rfl, Or.inl wk_99⟩
theorem vX_RX1_251_255 : ∀ w ∈ vx_atS RX1 255 "java/lang/IllegalStateException" exNames, ((w ∈ lw_tbl ∧ (goodWord w || isNW w) = true) ∨ w = .castable "java/lang/IllegalStateException" "java/lang/IllegalStateException") ∧ vx_ot w = true := by decide +kernel
theorem wk_878 : (.classLink RX1 251 "java/lang/IllegalStateException" : Jvm.Cond) ∈ WS := WS_at 878 (by decide +kernel) rfl
theorem wk_86 : (.initialized "java/lang/IllegalStateException" : Jvm.Cond) ∈ WS := WS_at 86 (by decide +kernel) rfl
theorem wk_818 : (.code yX1_needCard cX1_needCard 1 (none) : Jvm.Cond) ∈ WS := WS_at 818 (by decide +kernel) rfl
theorem wk_59 : (.initialized RX1 : Jvm.Cond) ∈ WS := WS_at 59 (by decide +kernel) rfl
theorem wk_816 : (.methodLink RX1 79 yX1_needCard : Jvm.Cond) ∈ WS := WS_at 816 (by decide +kernel) rfl
theorem wk_817 : (.static yX1_needCard : Jvm.Cond) ∈ WS := WS_at 817 (by decide +kernel) rfl
theorem vMX1_rangeOf {l : Launch} (hl : l.stackTraces = false) (G : GT) : vM l G (MX1_rangeOf (gg G)) := ⟨fun i c j h => lookup_all (l := (MX1_rangeOf (gg G)).fld) (P := fun i e => vFld RX1 i e.1 e.2) (all_c (vF_RX1_15) (all_n)) i (c, j) h, fun i c fs h => lookup_all (l := (MX1_rangeOf (gg G)).new) (P := fun i e => vNew RX1 i e.1 e.2) (all_n) i (c, fs) h, lookup_all (l := (MX1_rangeOf (gg G)).anew) (P := fun i e => vANew RX1 i e) (all_n), lookup_all (l := (MX1_rangeOf (gg G)).lng) (P := fun i e => Jvm.Cond.constantLong RX1 i e ∈ WS) (all_n), lookup_all (l := (MX1_rangeOf (gg G)).thr) (P := fun i e => vThr RX1 cX1_rangeOf i e) (all_c (⟨251, 253, 255, "the card has no range", by decide, by decide +kernel, wk_878, wk_86, vX_RX1_251_255, by decide, dX1_rangeOf_15, dX1_rangeOf_18, dX1_rangeOf_19, dX1_rangeOf_21, dX1_rangeOf_24⟩) (all_n)), fun h => absurd rfl h, lookup_all (l := (MX1_rangeOf (gg G)).cal) (P := fun i e => vCal l G RX1 i e) (all_c (⟨cX1_needCard, 1, none, fun y hy => by subst hy; exact ⟨by decide, ⟨_, wk_818, okX1_needCard hl, Or.inl ⟨Nat.ne_of_beq_eq_false rfl, rfl⟩⟩, wk_59, ⟨(by decide : yX1_needCard.cls ≠ "java/lang/invoke/MethodHandle"), (by decide : yX1_needCard.cls ≠ "java/lang/invoke/VarHandle")⟩, ⟨(by decide +kernel : (parseMethodDescriptor yX1_needCard.desc).map (fun d => d.parameters.length) = some 1), wk_816, wk_817⟩⟩⟩) (all_n)), lookup_all (l := (MX1_rangeOf (gg G)).stt) (P := fun i e => vStt G RX1 i e) (all_n), lookup_all (l := (MX1_rangeOf (gg G)).cst) (P := fun i e => vCst RX1 i e) (all_n), fun h => absurd rfl h, rfl, all_n⟩
theorem okX1_rangeOf {l : Launch} (hl : l.stackTraces = false) {G : GT} : ∀ (args : List Value) (w : Hw) (S : Ot → Hw → Prop), spOf (MX1_rangeOf (gg G)) args w S → CX l G yX1_rangeOf (.code yX1_rangeOf cX1_rangeOf 3 (some (.object "Rangecard$Range"))) 7 2 12 args w S := CX_sp (M := MX1_rangeOf (gg G)) (y := yX1_rangeOf) hl (by decide) rfl (vMX1_rangeOf hl G) (fun h => by cases h) rfl
