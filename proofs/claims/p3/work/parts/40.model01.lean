/-! RangecardModel.no()I -/
theorem dX3_no_0 : decode cX3_no 0 = .ok (.aload_n 0, 1) := by decide +kernel
theorem dX3_no_1 : decode cX3_no 1 = .ok (.dup, 1) := by decide +kernel
theorem dX3_no_2 : decode cX3_no 2 = .ok (.getfield 35, 3) := by decide +kernel
theorem dX3_no_5 : decode cX3_no 5 = .ok (.iconst 1, 1) := by decide +kernel
theorem dX3_no_6 : decode cX3_no 6 = .ok (.iadd, 1) := by decide +kernel
theorem dX3_no_7 : decode cX3_no 7 = .ok (.putfield 35, 3) := by decide +kernel
theorem dX3_no_10 : decode cX3_no 10 = .ok (.bipush (-9), 2) := by decide +kernel
theorem dX3_no_12 : decode cX3_no 12 = .ok (.ireturn, 1) := by decide +kernel
def MX3_no (g : RO) : MT := ((RX3, cX3_no, 1, 1, 0, 0, false, some .int), [(35, 7, 4)], [], [], [], [], 0, [], [], [], 0, [], [], g)
section
variable {g : RO} {Q : Ot → Hw → Prop} {st : List Value} {w : Hw} {k n p q : Nat} {a b : Int32} {x y : Int64} {u v : Value} {l0 : Option Value}
theorem eX3_no_0 : WP (MX3_no g) Q (0, [some (.ref p)], st, w, k, n) = WP (MX3_no g) Q (1, [some (.ref p)], .ref p :: st, w, k, n) := Eq.trans (WP_at (M := (MX3_no g)) rfl dX3_no_0 (Or.inr rfl)) rfl
theorem eX3_no_0N : WP (MX3_no g) Q (0, [some .null], st, w, k, n) = WP (MX3_no g) Q (1, [some .null], .null :: st, w, k, n) := Eq.trans (WP_at (M := (MX3_no g)) rfl dX3_no_0 (Or.inr rfl)) rfl
theorem eX3_no_1 : WP (MX3_no g) Q (1, [l0], .int a :: st, w, k, n) = WP (MX3_no g) Q (2, [l0], .int a :: .int a :: st, w, k, n) := by rw [WP_at (M := (MX3_no g)) rfl dX3_no_1 (Or.inr rfl)]; exact and_t rfl
theorem eX3_no_1R : WP (MX3_no g) Q (1, [l0], .ref p :: st, w, k, n) = WP (MX3_no g) Q (2, [l0], .ref p :: .ref p :: st, w, k, n) := by rw [WP_at (M := (MX3_no g)) rfl dX3_no_1 (Or.inr rfl)]; exact and_t rfl
theorem eX3_no_2 : WP (MX3_no g) Q (2, [l0], .ref p :: st, w, k, n) = go (rd g w p) 7 fun fs => ∃ v, fs[4]? = some v ∧ WP (MX3_no g) Q (5, [l0], v :: st, w, k, n) := get_e rfl dX3_no_2 rfl
theorem eX3_no_5 : WP (MX3_no g) Q (5, [l0], st, w, k, n) = WP (MX3_no g) Q (6, [l0], .int 1 :: st, w, k, n) := iconst_e rfl dX3_no_5 (by decide)
theorem eX3_no_6 : WP (MX3_no g) Q (6, [l0], .int b :: .int a :: st, w, k, n) = WP (MX3_no g) Q (7, [l0], .int (a + b) :: st, w, k, n) := Eq.trans (WP_at (M := (MX3_no g)) rfl dX3_no_6 (Or.inr rfl)) rfl
theorem eX3_no_7 : WP (MX3_no g) Q (7, [l0], v :: .ref p :: st, w, k, n) = go (w p) 7 fun fs => 4 < fs.length ∧ (narrow (.int) v = v ∧ fits (.int) v = true) ∧ WP (MX3_no g) Q (10, [l0], st, upw w p (.inr (7, fs.set 4 v)), k, n) := put_e (q := (RX3, TX3, 7)) rfl dX3_no_7 rfl rfl (tyX3_ok 4 (by decide)) (Or.inl rfl)
theorem eX3_no_10 : WP (MX3_no g) Q (10, [l0], st, w, k, n) = WP (MX3_no g) Q (12, [l0], .int (-9) :: st, w, k, n) := bipush_e rfl dX3_no_10 (by decide)
theorem eX3_no_12 : WP (MX3_no g) Q (12, [l0], [.int a], w, k, n) = (k ≤ 0 ∧ n ≤ 0 ∧ Q (.inl (some (.int a))) w) := iretI_e rfl dX3_no_12 rfl
end
theorem wk_1196 : (.fieldLink RX3 35 "RangecardModel" "refused" "I" : Jvm.Cond) ∈ WS := WS_at 1196 (by decide +kernel) rfl
theorem vF_RX3_35 : vFld RX3 35 7 4 := ⟨RX3, TX3, 7, tyX3, "RangecardModel", rfl, by decide, iW_7, tyX3_ok, nmX3, Or.inl rfl, Or.inl wk_1196⟩
theorem vMX3_no {l : Launch} (hl : l.stackTraces = false) (G : GT) : vM l G (MX3_no (gg G)) := ⟨fun i c j h => lookup_all (l := (MX3_no (gg G)).fld) (P := fun i e => vFld RX3 i e.1 e.2) (all_c (vF_RX3_35) (all_n)) i (c, j) h, fun i c fs h => lookup_all (l := (MX3_no (gg G)).new) (P := fun i e => vNew RX3 i e.1 e.2) (all_n) i (c, fs) h, lookup_all (l := (MX3_no (gg G)).anew) (P := fun i e => vANew RX3 i e) (all_n), lookup_all (l := (MX3_no (gg G)).lng) (P := fun i e => Jvm.Cond.constantLong RX3 i e ∈ WS) (all_n), lookup_all (l := (MX3_no (gg G)).thr) (P := fun i e => vThr RX3 cX3_no i e) (all_n), fun h => absurd rfl h, lookup_all (l := (MX3_no (gg G)).cal) (P := fun i e => vCal l G RX3 i e) (all_n), lookup_all (l := (MX3_no (gg G)).stt) (P := fun i e => vStt G RX3 i e) (all_n), lookup_all (l := (MX3_no (gg G)).cst) (P := fun i e => vCst RX3 i e) (all_n), fun h => absurd rfl h, rfl, all_n⟩
theorem okX3_no {l : Launch} (hl : l.stackTraces = false) {G : GT} : ∀ (args : List Value) (w : Hw) (S : Ot → Hw → Prop), spOf (MX3_no (gg G)) args w S → CX l G yX3_no (.code yX3_no cX3_no 1 (some .int)) 1 0 0 args w S := CX_sp (M := MX3_no (gg G)) (y := yX3_no) hl (by decide) rfl (vMX3_no hl G) (fun h => by cases h) rfl
/-! RangecardModel.isNoNumber(I)Z -/
theorem dX3_isNoNumber_0 : decode cX3_isNoNumber 0 = .ok (.iload_n 0, 1) := by decide +kernel
theorem dX3_isNoNumber_1 : decode cX3_isNoNumber 1 = .ok (.iconst 0, 1) := by decide +kernel
theorem dX3_isNoNumber_2 : decode cX3_isNoNumber 2 = .ok (.bipush 7, 2) := by decide +kernel
theorem dX3_isNoNumber_4 : decode cX3_isNoNumber 4 = .ok (.invokestatic 38, 3) := by decide +kernel
theorem dX3_isNoNumber_7 : decode cX3_isNoNumber 7 = .ok (.ifCond .ne 7, 3) := by decide +kernel
theorem dX3_isNoNumber_10 : decode cX3_isNoNumber 10 = .ok (.iconst 1, 1) := by decide +kernel
theorem dX3_isNoNumber_11 : decode cX3_isNoNumber 11 = .ok (.goto 4, 3) := by decide +kernel
theorem dX3_isNoNumber_14 : decode cX3_isNoNumber 14 = .ok (.iconst 0, 1) := by decide +kernel
theorem dX3_isNoNumber_15 : decode cX3_isNoNumber 15 = .ok (.ireturn, 1) := by decide +kernel
def MX3_isNoNumber (g : RO) : MT := ((RX3, cX3_isNoNumber, 1, 2, 0, 0, false, some .boolean), [], [], [], [], [], 0, [(38, 0, 3, 0, 1, (fun _ _ => 0), (fun _ _ => 0), yX3_isIn, spOf (MX3_isIn g))], [], [], 0, [], [], g)
section
variable {g : RO} {Q : Ot → Hw → Prop} {st : List Value} {w : Hw} {k n p q : Nat} {a b : Int32} {x y : Int64} {u v : Value} {l0 : Option Value}
theorem eX3_isNoNumber_0 : WP (MX3_isNoNumber g) Q (0, [some (.int a)], st, w, k, n) = WP (MX3_isNoNumber g) Q (1, [some (.int a)], .int a :: st, w, k, n) := Eq.trans (WP_at (M := (MX3_isNoNumber g)) rfl dX3_isNoNumber_0 (Or.inr rfl)) rfl
theorem eX3_isNoNumber_1 : WP (MX3_isNoNumber g) Q (1, [l0], st, w, k, n) = WP (MX3_isNoNumber g) Q (2, [l0], .int 0 :: st, w, k, n) := iconst_e rfl dX3_isNoNumber_1 (by decide)
theorem eX3_isNoNumber_2 : WP (MX3_isNoNumber g) Q (2, [l0], st, w, k, n) = WP (MX3_isNoNumber g) Q (4, [l0], .int 7 :: st, w, k, n) := bipush_e rfl dX3_isNoNumber_2 (by decide)
theorem eX3_isNoNumber_4 {z0 : Int32} {z1 : Int32} {z2 : Int32} : WP (MX3_isNoNumber g) Q (4, [l0], .int z2 :: .int z1 :: .int z0 :: st, w, k, n) = (wt st ≤ 8 ∧ k + 0 ≤ 0 ∧ n + 0 ≤ 0 ∧ WP (MX3_isIn g) (kx (fun v w' => WP (MX3_isNoNumber g) Q (7, [l0], v.toList ++ st, w', k + 0, n + 0)) (fun E w' => Q (.inr E) w')) (0, [some (.int z0), some (.int z1), some (.int z2)], [], w, 0, 0)) := csS (M := (MX3_isNoNumber g)) (mc := (fun _ _ => 0)) (ms := (fun _ _ => 0)) (As := [.int z0, .int z1, .int z2]) (rest := st) (MX3_isIn g) rfl rfl dX3_isNoNumber_4 (Nat.ne_of_beq_eq_false rfl) (by exact fun h => nomatch (show (none : Option Nat) = some 12 from h)) (by exact fun h => nomatch (show (none : Option Nat) = some 13 from h)) (by exact fun h => nomatch (show (none : Option Nat) = some 14 from h)) rfl rfl (by decide) (Nat.le_of_ble_eq_true rfl) (Nat.le_of_ble_eq_true rfl) rfl
theorem eX3_isNoNumber_7 : WP (MX3_isNoNumber g) Q (7, [l0], .int a :: st, w, k, n) = if a = 0 then WP (MX3_isNoNumber g) Q (10, [l0], st, w, k, n) else WP (MX3_isNoNumber g) Q (14, [l0], st, w, k, n) := ifcn_e (a = 0) rfl dX3_isNoNumber_7 rfl (by decide)
theorem eX3_isNoNumber_10 : WP (MX3_isNoNumber g) Q (10, [l0], st, w, k, n) = WP (MX3_isNoNumber g) Q (11, [l0], .int 1 :: st, w, k, n) := iconst_e rfl dX3_isNoNumber_10 (by decide)
theorem eX3_isNoNumber_11 : WP (MX3_isNoNumber g) Q (11, [l0], st, w, k, n) = WP (MX3_isNoNumber g) Q (15, [l0], st, w, k, n) := goto_e rfl dX3_isNoNumber_11 (by decide)
theorem eX3_isNoNumber_14 : WP (MX3_isNoNumber g) Q (14, [l0], st, w, k, n) = WP (MX3_isNoNumber g) Q (15, [l0], .int 0 :: st, w, k, n) := iconst_e rfl dX3_isNoNumber_14 (by decide)
theorem eX3_isNoNumber_15 : WP (MX3_isNoNumber g) Q (15, [l0], [.int a], w, k, n) = (narrow (.boolean) (.int a) = .int a ∧ k ≤ 0 ∧ n ≤ 0 ∧ Q (.inl (some (.int a))) w) := iret_e rfl dX3_isNoNumber_15 rfl
end
theorem wk_1227 : (.code yX3_isIn cX3_isIn 3 (some .boolean) : Jvm.Cond) ∈ WS := WS_at 1227 (by decide +kernel) rfl
theorem wk_1225 : (.methodLink RX3 38 yX3_isIn : Jvm.Cond) ∈ WS := WS_at 1225 (by decide +kernel) rfl
theorem wk_1226 : (.static yX3_isIn : Jvm.Cond) ∈ WS := WS_at 1226 (by decide +kernel) rfl
theorem vMX3_isNoNumber {l : Launch} (hl : l.stackTraces = false) (G : GT) : vM l G (MX3_isNoNumber (gg G)) := ⟨fun i c j h => lookup_all (l := (MX3_isNoNumber (gg G)).fld) (P := fun i e => vFld RX3 i e.1 e.2) (all_n) i (c, j) h, fun i c fs h => lookup_all (l := (MX3_isNoNumber (gg G)).new) (P := fun i e => vNew RX3 i e.1 e.2) (all_n) i (c, fs) h, lookup_all (l := (MX3_isNoNumber (gg G)).anew) (P := fun i e => vANew RX3 i e) (all_n), lookup_all (l := (MX3_isNoNumber (gg G)).lng) (P := fun i e => Jvm.Cond.constantLong RX3 i e ∈ WS) (all_n), lookup_all (l := (MX3_isNoNumber (gg G)).thr) (P := fun i e => vThr RX3 cX3_isNoNumber i e) (all_n), fun h => absurd rfl h, lookup_all (l := (MX3_isNoNumber (gg G)).cal) (P := fun i e => vCal l G RX3 i e) (all_c (⟨cX3_isIn, 3, some .boolean, fun y hy => by subst hy; exact ⟨by decide, ⟨_, wk_1227, okX3_isIn hl, Or.inl ⟨Nat.ne_of_beq_eq_false rfl, rfl⟩⟩, wk_60, ⟨(by decide : yX3_isIn.cls ≠ "java/lang/invoke/MethodHandle"), (by decide : yX3_isIn.cls ≠ "java/lang/invoke/VarHandle")⟩, ⟨(by decide +kernel : (parseMethodDescriptor yX3_isIn.desc).map (fun d => d.parameters.length) = some 3), wk_1225, wk_1226⟩⟩⟩) (all_n)), lookup_all (l := (MX3_isNoNumber (gg G)).stt) (P := fun i e => vStt G RX3 i e) (all_n), lookup_all (l := (MX3_isNoNumber (gg G)).cst) (P := fun i e => vCst RX3 i e) (all_n), fun h => absurd rfl h, rfl, all_n⟩
theorem okX3_isNoNumber {l : Launch} (hl : l.stackTraces = false) {G : GT} : ∀ (args : List Value) (w : Hw) (S : Ot → Hw → Prop), spOf (MX3_isNoNumber (gg G)) args w S → CX l G yX3_isNoNumber (.code yX3_isNoNumber cX3_isNoNumber 1 (some .boolean)) 2 0 0 args w S := CX_sp (M := MX3_isNoNumber (gg G)) (y := yX3_isNoNumber) hl (by decide) rfl (vMX3_isNoNumber hl G) (fun h => by cases h) rfl
/-! RangecardModel.isNoCard(I)Z -/
theorem dX3_isNoCard_0 : decode cX3_isNoCard 0 = .ok (.iload_n 0, 1) := by decide +kernel
theorem dX3_isNoCard_1 : decode cX3_isNoCard 1 = .ok (.iconst 0, 1) := by decide +kernel
theorem dX3_isNoCard_2 : decode cX3_isNoCard 2 = .ok (.iconst 5, 1) := by decide +kernel
theorem dX3_isNoCard_3 : decode cX3_isNoCard 3 = .ok (.invokestatic 38, 3) := by decide +kernel
theorem dX3_isNoCard_6 : decode cX3_isNoCard 6 = .ok (.ifCond .ne 7, 3) := by decide +kernel
theorem dX3_isNoCard_9 : decode cX3_isNoCard 9 = .ok (.iconst 1, 1) := by decide +kernel
theorem dX3_isNoCard_10 : decode cX3_isNoCard 10 = .ok (.goto 4, 3) := by decide +kernel
theorem dX3_isNoCard_13 : decode cX3_isNoCard 13 = .ok (.iconst 0, 1) := by decide +kernel
theorem dX3_isNoCard_14 : decode cX3_isNoCard 14 = .ok (.ireturn, 1) := by decide +kernel
def MX3_isNoCard (g : RO) : MT := ((RX3, cX3_isNoCard, 1, 2, 0, 0, false, some .boolean), [], [], [], [], [], 0, [(38, 0, 3, 0, 1, (fun _ _ => 0), (fun _ _ => 0), yX3_isIn, spOf (MX3_isIn g))], [], [], 0, [], [], g)
section
variable {g : RO} {Q : Ot → Hw → Prop} {st : List Value} {w : Hw} {k n p q : Nat} {a b : Int32} {x y : Int64} {u v : Value} {l0 : Option Value}
theorem eX3_isNoCard_0 : WP (MX3_isNoCard g) Q (0, [some (.int a)], st, w, k, n) = WP (MX3_isNoCard g) Q (1, [some (.int a)], .int a :: st, w, k, n) := Eq.trans (WP_at (M := (MX3_isNoCard g)) rfl dX3_isNoCard_0 (Or.inr rfl)) rfl
theorem eX3_isNoCard_1 : WP (MX3_isNoCard g) Q (1, [l0], st, w, k, n) = WP (MX3_isNoCard g) Q (2, [l0], .int 0 :: st, w, k, n) := iconst_e rfl dX3_isNoCard_1 (by decide)
theorem eX3_isNoCard_2 : WP (MX3_isNoCard g) Q (2, [l0], st, w, k, n) = WP (MX3_isNoCard g) Q (3, [l0], .int 5 :: st, w, k, n) := iconst_e rfl dX3_isNoCard_2 (by decide)
theorem eX3_isNoCard_3 {z0 : Int32} {z1 : Int32} {z2 : Int32} : WP (MX3_isNoCard g) Q (3, [l0], .int z2 :: .int z1 :: .int z0 :: st, w, k, n) = (wt st ≤ 8 ∧ k + 0 ≤ 0 ∧ n + 0 ≤ 0 ∧ WP (MX3_isIn g) (kx (fun v w' => WP (MX3_isNoCard g) Q (6, [l0], v.toList ++ st, w', k + 0, n + 0)) (fun E w' => Q (.inr E) w')) (0, [some (.int z0), some (.int z1), some (.int z2)], [], w, 0, 0)) := csS (M := (MX3_isNoCard g)) (mc := (fun _ _ => 0)) (ms := (fun _ _ => 0)) (As := [.int z0, .int z1, .int z2]) (rest := st) (MX3_isIn g) rfl rfl dX3_isNoCard_3 (Nat.ne_of_beq_eq_false rfl) (by exact fun h => nomatch (show (none : Option Nat) = some 12 from h)) (by exact fun h => nomatch (show (none : Option Nat) = some 13 from h)) (by exact fun h => nomatch (show (none : Option Nat) = some 14 from h)) rfl rfl (by decide) (Nat.le_of_ble_eq_true rfl) (Nat.le_of_ble_eq_true rfl) rfl
theorem eX3_isNoCard_6 : WP (MX3_isNoCard g) Q (6, [l0], .int a :: st, w, k, n) = if a = 0 then WP (MX3_isNoCard g) Q (9, [l0], st, w, k, n) else WP (MX3_isNoCard g) Q (13, [l0], st, w, k, n) := ifcn_e (a = 0) rfl dX3_isNoCard_6 rfl (by decide)
theorem eX3_isNoCard_9 : WP (MX3_isNoCard g) Q (9, [l0], st, w, k, n) = WP (MX3_isNoCard g) Q (10, [l0], .int 1 :: st, w, k, n) := iconst_e rfl dX3_isNoCard_9 (by decide)
theorem eX3_isNoCard_10 : WP (MX3_isNoCard g) Q (10, [l0], st, w, k, n) = WP (MX3_isNoCard g) Q (14, [l0], st, w, k, n) := goto_e rfl dX3_isNoCard_10 (by decide)
theorem eX3_isNoCard_13 : WP (MX3_isNoCard g) Q (13, [l0], st, w, k, n) = WP (MX3_isNoCard g) Q (14, [l0], .int 0 :: st, w, k, n) := iconst_e rfl dX3_isNoCard_13 (by decide)
theorem eX3_isNoCard_14 : WP (MX3_isNoCard g) Q (14, [l0], [.int a], w, k, n) = (narrow (.boolean) (.int a) = .int a ∧ k ≤ 0 ∧ n ≤ 0 ∧ Q (.inl (some (.int a))) w) := iret_e rfl dX3_isNoCard_14 rfl
end
theorem vMX3_isNoCard {l : Launch} (hl : l.stackTraces = false) (G : GT) : vM l G (MX3_isNoCard (gg G)) := ⟨fun i c j h => lookup_all (l := (MX3_isNoCard (gg G)).fld) (P := fun i e => vFld RX3 i e.1 e.2) (all_n) i (c, j) h, fun i c fs h => lookup_all (l := (MX3_isNoCard (gg G)).new) (P := fun i e => vNew RX3 i e.1 e.2) (all_n) i (c, fs) h, lookup_all (l := (MX3_isNoCard (gg G)).anew) (P := fun i e => vANew RX3 i e) (all_n), lookup_all (l := (MX3_isNoCard (gg G)).lng) (P := fun i e => Jvm.Cond.constantLong RX3 i e ∈ WS) (all_n), lookup_all (l := (MX3_isNoCard (gg G)).thr) (P := fun i e => vThr RX3 cX3_isNoCard i e) (all_n), fun h => absurd rfl h, lookup_all (l := (MX3_isNoCard (gg G)).cal) (P := fun i e => vCal l G RX3 i e) (all_c (⟨cX3_isIn, 3, some .boolean, fun y hy => by subst hy; exact ⟨by decide, ⟨_, wk_1227, okX3_isIn hl, Or.inl ⟨Nat.ne_of_beq_eq_false rfl, rfl⟩⟩, wk_60, ⟨(by decide : yX3_isIn.cls ≠ "java/lang/invoke/MethodHandle"), (by decide : yX3_isIn.cls ≠ "java/lang/invoke/VarHandle")⟩, ⟨(by decide +kernel : (parseMethodDescriptor yX3_isIn.desc).map (fun d => d.parameters.length) = some 3), wk_1225, wk_1226⟩⟩⟩) (all_n)), lookup_all (l := (MX3_isNoCard (gg G)).stt) (P := fun i e => vStt G RX3 i e) (all_n), lookup_all (l := (MX3_isNoCard (gg G)).cst) (P := fun i e => vCst RX3 i e) (all_n), fun h => absurd rfl h, rfl, all_n⟩
theorem okX3_isNoCard {l : Launch} (hl : l.stackTraces = false) {G : GT} : ∀ (args : List Value) (w : Hw) (S : Ot → Hw → Prop), spOf (MX3_isNoCard (gg G)) args w S → CX l G yX3_isNoCard (.code yX3_isNoCard cX3_isNoCard 1 (some .boolean)) 2 0 0 args w S := CX_sp (M := MX3_isNoCard (gg G)) (y := yX3_isNoCard) hl (by decide) rfl (vMX3_isNoCard hl G) (fun h => by cases h) rfl
/-! RangecardModel.isNoEnd(I)Z -/
theorem dX3_isNoEnd_0 : decode cX3_isNoEnd 0 = .ok (.iload_n 0, 1) := by decide +kernel
theorem dX3_isNoEnd_1 : decode cX3_isNoEnd 1 = .ok (.iconst 0, 1) := by decide +kernel
theorem dX3_isNoEnd_2 : decode cX3_isNoEnd 2 = .ok (.iconst 3, 1) := by decide +kernel
theorem dX3_isNoEnd_3 : decode cX3_isNoEnd 3 = .ok (.invokestatic 38, 3) := by decide +kernel
theorem dX3_isNoEnd_6 : decode cX3_isNoEnd 6 = .ok (.ifCond .ne 7, 3) := by decide +kernel
theorem dX3_isNoEnd_9 : decode cX3_isNoEnd 9 = .ok (.iconst 1, 1) := by decide +kernel
theorem dX3_isNoEnd_10 : decode cX3_isNoEnd 10 = .ok (.goto 4, 3) := by decide +kernel
theorem dX3_isNoEnd_13 : decode cX3_isNoEnd 13 = .ok (.iconst 0, 1) := by decide +kernel
theorem dX3_isNoEnd_14 : decode cX3_isNoEnd 14 = .ok (.ireturn, 1) := by decide +kernel
def MX3_isNoEnd (g : RO) : MT := ((RX3, cX3_isNoEnd, 1, 2, 0, 0, false, some .boolean), [], [], [], [], [], 0, [(38, 0, 3, 0, 1, (fun _ _ => 0), (fun _ _ => 0), yX3_isIn, spOf (MX3_isIn g))], [], [], 0, [], [], g)
section
variable {g : RO} {Q : Ot → Hw → Prop} {st : List Value} {w : Hw} {k n p q : Nat} {a b : Int32} {x y : Int64} {u v : Value} {l0 : Option Value}
theorem eX3_isNoEnd_0 : WP (MX3_isNoEnd g) Q (0, [some (.int a)], st, w, k, n) = WP (MX3_isNoEnd g) Q (1, [some (.int a)], .int a :: st, w, k, n) := Eq.trans (WP_at (M := (MX3_isNoEnd g)) rfl dX3_isNoEnd_0 (Or.inr rfl)) rfl
theorem eX3_isNoEnd_1 : WP (MX3_isNoEnd g) Q (1, [l0], st, w, k, n) = WP (MX3_isNoEnd g) Q (2, [l0], .int 0 :: st, w, k, n) := iconst_e rfl dX3_isNoEnd_1 (by decide)
theorem eX3_isNoEnd_2 : WP (MX3_isNoEnd g) Q (2, [l0], st, w, k, n) = WP (MX3_isNoEnd g) Q (3, [l0], .int 3 :: st, w, k, n) := iconst_e rfl dX3_isNoEnd_2 (by decide)
theorem eX3_isNoEnd_3 {z0 : Int32} {z1 : Int32} {z2 : Int32} : WP (MX3_isNoEnd g) Q (3, [l0], .int z2 :: .int z1 :: .int z0 :: st, w, k, n) = (wt st ≤ 8 ∧ k + 0 ≤ 0 ∧ n + 0 ≤ 0 ∧ WP (MX3_isIn g) (kx (fun v w' => WP (MX3_isNoEnd g) Q (6, [l0], v.toList ++ st, w', k + 0, n + 0)) (fun E w' => Q (.inr E) w')) (0, [some (.int z0), some (.int z1), some (.int z2)], [], w, 0, 0)) := csS (M := (MX3_isNoEnd g)) (mc := (fun _ _ => 0)) (ms := (fun _ _ => 0)) (As := [.int z0, .int z1, .int z2]) (rest := st) (MX3_isIn g) rfl rfl dX3_isNoEnd_3 (Nat.ne_of_beq_eq_false rfl) (by exact fun h => nomatch (show (none : Option Nat) = some 12 from h)) (by exact fun h => nomatch (show (none : Option Nat) = some 13 from h)) (by exact fun h => nomatch (show (none : Option Nat) = some 14 from h)) rfl rfl (by decide) (Nat.le_of_ble_eq_true rfl) (Nat.le_of_ble_eq_true rfl) rfl
theorem eX3_isNoEnd_6 : WP (MX3_isNoEnd g) Q (6, [l0], .int a :: st, w, k, n) = if a = 0 then WP (MX3_isNoEnd g) Q (9, [l0], st, w, k, n) else WP (MX3_isNoEnd g) Q (13, [l0], st, w, k, n) := ifcn_e (a = 0) rfl dX3_isNoEnd_6 rfl (by decide)
theorem eX3_isNoEnd_9 : WP (MX3_isNoEnd g) Q (9, [l0], st, w, k, n) = WP (MX3_isNoEnd g) Q (10, [l0], .int 1 :: st, w, k, n) := iconst_e rfl dX3_isNoEnd_9 (by decide)
theorem eX3_isNoEnd_10 : WP (MX3_isNoEnd g) Q (10, [l0], st, w, k, n) = WP (MX3_isNoEnd g) Q (14, [l0], st, w, k, n) := goto_e rfl dX3_isNoEnd_10 (by decide)
theorem eX3_isNoEnd_13 : WP (MX3_isNoEnd g) Q (13, [l0], st, w, k, n) = WP (MX3_isNoEnd g) Q (14, [l0], .int 0 :: st, w, k, n) := iconst_e rfl dX3_isNoEnd_13 (by decide)
theorem eX3_isNoEnd_14 : WP (MX3_isNoEnd g) Q (14, [l0], [.int a], w, k, n) = (narrow (.boolean) (.int a) = .int a ∧ k ≤ 0 ∧ n ≤ 0 ∧ Q (.inl (some (.int a))) w) := iret_e rfl dX3_isNoEnd_14 rfl
end
theorem vMX3_isNoEnd {l : Launch} (hl : l.stackTraces = false) (G : GT) : vM l G (MX3_isNoEnd (gg G)) := ⟨fun i c j h => lookup_all (l := (MX3_isNoEnd (gg G)).fld) (P := fun i e => vFld RX3 i e.1 e.2) (all_n) i (c, j) h, fun i c fs h => lookup_all (l := (MX3_isNoEnd (gg G)).new) (P := fun i e => vNew RX3 i e.1 e.2) (all_n) i (c, fs) h, lookup_all (l := (MX3_isNoEnd (gg G)).anew) (P := fun i e => vANew RX3 i e) (all_n), lookup_all (l := (MX3_isNoEnd (gg G)).lng) (P := fun i e => Jvm.Cond.constantLong RX3 i e ∈ WS) (all_n), lookup_all (l := (MX3_isNoEnd (gg G)).thr) (P := fun i e => vThr RX3 cX3_isNoEnd i e) (all_n), fun h => absurd rfl h, lookup_all (l := (MX3_isNoEnd (gg G)).cal) (P := fun i e => vCal l G RX3 i e) (all_c (⟨cX3_isIn, 3, some .boolean, fun y hy => by subst hy; exact ⟨by decide, ⟨_, wk_1227, okX3_isIn hl, Or.inl ⟨Nat.ne_of_beq_eq_false rfl, rfl⟩⟩, wk_60, ⟨(by decide : yX3_isIn.cls ≠ "java/lang/invoke/MethodHandle"), (by decide : yX3_isIn.cls ≠ "java/lang/invoke/VarHandle")⟩, ⟨(by decide +kernel : (parseMethodDescriptor yX3_isIn.desc).map (fun d => d.parameters.length) = some 3), wk_1225, wk_1226⟩⟩⟩) (all_n)), lookup_all (l := (MX3_isNoEnd (gg G)).stt) (P := fun i e => vStt G RX3 i e) (all_n), lookup_all (l := (MX3_isNoEnd (gg G)).cst) (P := fun i e => vCst RX3 i e) (all_n), fun h => absurd rfl h, rfl, all_n⟩
theorem okX3_isNoEnd {l : Launch} (hl : l.stackTraces = false) {G : GT} : ∀ (args : List Value) (w : Hw) (S : Ot → Hw → Prop), spOf (MX3_isNoEnd (gg G)) args w S → CX l G yX3_isNoEnd (.code yX3_isNoEnd cX3_isNoEnd 1 (some .boolean)) 2 0 0 args w S := CX_sp (M := MX3_isNoEnd (gg G)) (y := yX3_isNoEnd) hl (by decide) rfl (vMX3_isNoEnd hl G) (fun h => by cases h) rfl
/-! RangecardModel.isBare(I)Z -/
theorem dX3_isBare_0 : decode cX3_isBare 0 = .ok (.aload_n 0, 1) := by decide +kernel
theorem dX3_isBare_1 : decode cX3_isBare 1 = .ok (.getfield 16, 3) := by decide +kernel
theorem dX3_isBare_4 : decode cX3_isBare 4 = .ok (.iload_n 1, 1) := by decide +kernel
theorem dX3_isBare_5 : decode cX3_isBare 5 = .ok (.invokevirtual 42, 3) := by decide +kernel
theorem dX3_isBare_8 : decode cX3_isBare 8 = .ok (.ifnonnull 7, 3) := by decide +kernel
theorem dX3_isBare_11 : decode cX3_isBare 11 = .ok (.iconst 1, 1) := by decide +kernel
theorem dX3_isBare_12 : decode cX3_isBare 12 = .ok (.goto 4, 3) := by decide +kernel
theorem dX3_isBare_15 : decode cX3_isBare 15 = .ok (.iconst 0, 1) := by decide +kernel
theorem dX3_isBare_16 : decode cX3_isBare 16 = .ok (.ireturn, 1) := by decide +kernel
def MX3_isBare (g : RO) : MT := ((RX3, cX3_isBare, 2, 4, 0, 0, false, some .boolean), [(16, 7, 2)], [], [], [], [], 0, [(42, 2, 2, 3, 3, (fun _ _ => 0), (fun _ _ => 0), yJx4a65c_get_915e3, spOf (MJx4a65c_get_915e3 g))], [], [], 0, [], [], g)
section
variable {g : RO} {Q : Ot → Hw → Prop} {st : List Value} {w : Hw} {k n p q : Nat} {a b : Int32} {x y : Int64} {u v : Value} {l0 l1 : Option Value}
theorem eX3_isBare_0 : WP (MX3_isBare g) Q (0, [some (.ref p), l1], st, w, k, n) = WP (MX3_isBare g) Q (1, [some (.ref p), l1], .ref p :: st, w, k, n) := Eq.trans (WP_at (M := (MX3_isBare g)) rfl dX3_isBare_0 (Or.inr rfl)) rfl
theorem eX3_isBare_0N : WP (MX3_isBare g) Q (0, [some .null, l1], st, w, k, n) = WP (MX3_isBare g) Q (1, [some .null, l1], .null :: st, w, k, n) := Eq.trans (WP_at (M := (MX3_isBare g)) rfl dX3_isBare_0 (Or.inr rfl)) rfl
theorem eX3_isBare_1 : WP (MX3_isBare g) Q (1, [l0, l1], .ref p :: st, w, k, n) = go (rd g w p) 7 fun fs => ∃ v, fs[2]? = some v ∧ WP (MX3_isBare g) Q (4, [l0, l1], v :: st, w, k, n) := get_e rfl dX3_isBare_1 rfl
theorem eX3_isBare_4 : WP (MX3_isBare g) Q (4, [l0, some (.int a)], st, w, k, n) = WP (MX3_isBare g) Q (5, [l0, some (.int a)], .int a :: st, w, k, n) := Eq.trans (WP_at (M := (MX3_isBare g)) rfl dX3_isBare_4 (Or.inr rfl)) rfl
theorem eX3_isBare_5 {z0 : Int32} : WP (MX3_isBare g) Q (5, [l0, l1], .int z0 :: .ref p :: st, w, k, n) = (go (rd g w p) 3 (fun _ => True) ∧ wt st ≤ 8 ∧ k + 0 ≤ 0 ∧ n + 0 ≤ 0 ∧ WP (MJx4a65c_get_915e3 g) (kx (fun v w' => WP (MX3_isBare g) Q (8, [l0, l1], v.toList ++ st, w', k + 0, n + 0)) (fun E w' => Q (.inr E) w')) (0, [some (.ref p), some (.int z0)], [], w, 0, 0)) := csV (M := (MX3_isBare g)) (mc := (fun _ _ => 0)) (ms := (fun _ _ => 0)) (As := [.int z0]) (rest := st) (MJx4a65c_get_915e3 g) rfl rfl dX3_isBare_5 (by exact fun h => nomatch (show (none : Option Nat) = some 11 from h)) (by exact fun h => nomatch (show (none : Option Nat) = some 15 from h)) rfl rfl (by decide) (Nat.le_of_ble_eq_true rfl) (Nat.le_of_ble_eq_true rfl) rfl
theorem eX3_isBare_8R : WP (MX3_isBare g) Q (8, [l0, l1], .ref p :: st, w, k, n) = WP (MX3_isBare g) Q (15, [l0, l1], st, w, k, n) := ifnonnullR_e rfl dX3_isBare_8 (tgt := 15) (by decide)
theorem eX3_isBare_8N : WP (MX3_isBare g) Q (8, [l0, l1], .null :: st, w, k, n) = WP (MX3_isBare g) Q (11, [l0, l1], st, w, k, n) := ifnonnullN_e rfl dX3_isBare_8 (tgt := 15) (by decide)
theorem eX3_isBare_11 : WP (MX3_isBare g) Q (11, [l0, l1], st, w, k, n) = WP (MX3_isBare g) Q (12, [l0, l1], .int 1 :: st, w, k, n) := iconst_e rfl dX3_isBare_11 (by decide)
theorem eX3_isBare_12 : WP (MX3_isBare g) Q (12, [l0, l1], st, w, k, n) = WP (MX3_isBare g) Q (16, [l0, l1], st, w, k, n) := goto_e rfl dX3_isBare_12 (by decide)
theorem eX3_isBare_15 : WP (MX3_isBare g) Q (15, [l0, l1], st, w, k, n) = WP (MX3_isBare g) Q (16, [l0, l1], .int 0 :: st, w, k, n) := iconst_e rfl dX3_isBare_15 (by decide)
theorem eX3_isBare_16 : WP (MX3_isBare g) Q (16, [l0, l1], [.int a], w, k, n) = (narrow (.boolean) (.int a) = .int a ∧ k ≤ 0 ∧ n ≤ 0 ∧ Q (.inl (some (.int a))) w) := iret_e rfl dX3_isBare_16 rfl
end
theorem wk_1379 : (.code yJx4a65c_get_915e3 cJx4a65c_get_915e3 2 (some (.object "java/lang/Object")) : Jvm.Cond) ∈ WS := WS_at 1379 (by decide +kernel) rfl
theorem wk_1376 : (.methodLink RX3 42 yJx4a65c_get_915e3 : Jvm.Cond) ∈ WS := WS_at 1376 (by decide +kernel) rfl
theorem wk_1377 : (.instanceMethod yJx4a65c_get_915e3 : Jvm.Cond) ∈ WS := WS_at 1377 (by decide +kernel) rfl
theorem wk_1378 : (.selects RJx4a65c yJx4a65c_get_915e3 yJx4a65c_get_915e3 : Jvm.Cond) ∈ WS := WS_at 1378 (by decide +kernel) rfl
theorem vMX3_isBare {l : Launch} (hl : l.stackTraces = false) (G : GT) : vM l G (MX3_isBare (gg G)) := ⟨fun i c j h => lookup_all (l := (MX3_isBare (gg G)).fld) (P := fun i e => vFld RX3 i e.1 e.2) (all_c (vF_RX3_16) (all_n)) i (c, j) h, fun i c fs h => lookup_all (l := (MX3_isBare (gg G)).new) (P := fun i e => vNew RX3 i e.1 e.2) (all_n) i (c, fs) h, lookup_all (l := (MX3_isBare (gg G)).anew) (P := fun i e => vANew RX3 i e) (all_n), lookup_all (l := (MX3_isBare (gg G)).lng) (P := fun i e => Jvm.Cond.constantLong RX3 i e ∈ WS) (all_n), lookup_all (l := (MX3_isBare (gg G)).thr) (P := fun i e => vThr RX3 cX3_isBare i e) (all_n), fun h => absurd rfl h, lookup_all (l := (MX3_isBare (gg G)).cal) (P := fun i e => vCal l G RX3 i e) (all_c (⟨cJx4a65c_get_915e3, 2, some (.object "java/lang/Object"), fun y hy => by subst hy; exact ⟨by decide, ⟨_, wk_1379, okJx4a65c_get_915e3 hl, Or.inl ⟨Nat.ne_of_beq_eq_false rfl, rfl⟩⟩, wk_63, ⟨(by decide : yJx4a65c_get_915e3.cls ≠ "java/lang/invoke/MethodHandle"), (by decide : yJx4a65c_get_915e3.cls ≠ "java/lang/invoke/VarHandle")⟩, ⟨(by decide +kernel : (parseMethodDescriptor yJx4a65c_get_915e3.desc).map (fun d => d.parameters.length + 1) = some 2), wk_1376, wk_1377, wk_1378, (RJx4a65c, TJx4a65c, 3), rfl, rfl⟩⟩⟩) (all_n)), lookup_all (l := (MX3_isBare (gg G)).stt) (P := fun i e => vStt G RX3 i e) (all_n), lookup_all (l := (MX3_isBare (gg G)).cst) (P := fun i e => vCst RX3 i e) (all_n), fun h => absurd rfl h, rfl, all_n⟩
theorem okX3_isBare {l : Launch} (hl : l.stackTraces = false) {G : GT} : ∀ (args : List Value) (w : Hw) (S : Ot → Hw → Prop), spOf (MX3_isBare (gg G)) args w S → CX l G yX3_isBare (.code yX3_isBare cX3_isBare 2 (some .boolean)) 4 0 0 args w S := CX_sp (M := MX3_isBare (gg G)) (y := yX3_isBare) hl (by decide) rfl (vMX3_isBare hl G) (fun h => by cases h) rfl
/-! RangecardModel.high(J)I -/
theorem dX3_high_0 : decode cX3_high 0 = .ok (.lload_n 0, 1) := by decide +kernel
theorem dX3_high_1 : decode cX3_high 1 = .ok (.lload_n 0, 1) := by decide +kernel
theorem dX3_high_2 : decode cX3_high 2 = .ok (.ldc2_w 46, 3) := by decide +kernel
theorem dX3_high_5 : decode cX3_high 5 = .ok (.lrem, 1) := by decide +kernel
theorem dX3_high_6 : decode cX3_high 6 = .ok (.ldc2_w 46, 3) := by decide +kernel
theorem dX3_high_9 : decode cX3_high 9 = .ok (.ladd, 1) := by decide +kernel
theorem dX3_high_10 : decode cX3_high 10 = .ok (.ldc2_w 46, 3) := by decide +kernel
theorem dX3_high_13 : decode cX3_high 13 = .ok (.lrem, 1) := by decide +kernel
theorem dX3_high_14 : decode cX3_high 14 = .ok (.lsub, 1) := by decide +kernel
theorem dX3_high_15 : decode cX3_high 15 = .ok (.ldc2_w 46, 3) := by decide +kernel
theorem dX3_high_18 : decode cX3_high 18 = .ok (.ldiv, 1) := by decide +kernel
theorem dX3_high_19 : decode cX3_high 19 = .ok (.l2i, 1) := by decide +kernel
theorem dX3_high_20 : decode cX3_high 20 = .ok (.ireturn, 1) := by decide +kernel
def MX3_high (g : RO) : MT := ((RX3, cX3_high, 2, 1, 0, 0, false, some .int), [], [], [], [(46, 4294967296)], [], 0, [], [], [], 0, [], [], g)
section
variable {g : RO} {Q : Ot → Hw → Prop} {st : List Value} {w : Hw} {k n p q : Nat} {a b : Int32} {x y : Int64} {u v : Value} {l0 l1 : Option Value}
theorem eX3_high_0 : WP (MX3_high g) Q (0, [some (.long x), l1], st, w, k, n) = WP (MX3_high g) Q (1, [some (.long x), l1], .long x :: st, w, k, n) := Eq.trans (WP_at (M := (MX3_high g)) rfl dX3_high_0 (Or.inr rfl)) rfl
theorem eX3_high_1 : WP (MX3_high g) Q (1, [some (.long x), l1], st, w, k, n) = WP (MX3_high g) Q (2, [some (.long x), l1], .long x :: st, w, k, n) := Eq.trans (WP_at (M := (MX3_high g)) rfl dX3_high_1 (Or.inr rfl)) rfl
theorem eX3_high_2 : WP (MX3_high g) Q (2, [l0, l1], st, w, k, n) = WP (MX3_high g) Q (5, [l0, l1], .long 4294967296 :: st, w, k, n) := ldc2_e rfl dX3_high_2 rfl
theorem eX3_high_5 : WP (MX3_high g) Q (5, [l0, l1], .long y :: .long x :: st, w, k, n) = (¬ y = 0 ∧ WP (MX3_high g) Q (6, [l0, l1], .long (x - x / y * y) :: st, w, k, n)) := Eq.trans (WP_at (M := (MX3_high g)) rfl dX3_high_5 (Or.inr rfl)) rfl
theorem eX3_high_6 : WP (MX3_high g) Q (6, [l0, l1], st, w, k, n) = WP (MX3_high g) Q (9, [l0, l1], .long 4294967296 :: st, w, k, n) := ldc2_e rfl dX3_high_6 rfl
theorem eX3_high_9 : WP (MX3_high g) Q (9, [l0, l1], .long y :: .long x :: st, w, k, n) = WP (MX3_high g) Q (10, [l0, l1], .long (x + y) :: st, w, k, n) := Eq.trans (WP_at (M := (MX3_high g)) rfl dX3_high_9 (Or.inr rfl)) rfl
theorem eX3_high_10 : WP (MX3_high g) Q (10, [l0, l1], st, w, k, n) = WP (MX3_high g) Q (13, [l0, l1], .long 4294967296 :: st, w, k, n) := ldc2_e rfl dX3_high_10 rfl
theorem eX3_high_13 : WP (MX3_high g) Q (13, [l0, l1], .long y :: .long x :: st, w, k, n) = (¬ y = 0 ∧ WP (MX3_high g) Q (14, [l0, l1], .long (x - x / y * y) :: st, w, k, n)) := Eq.trans (WP_at (M := (MX3_high g)) rfl dX3_high_13 (Or.inr rfl)) rfl
theorem eX3_high_14 : WP (MX3_high g) Q (14, [l0, l1], .long y :: .long x :: st, w, k, n) = WP (MX3_high g) Q (15, [l0, l1], .long (x - y) :: st, w, k, n) := Eq.trans (WP_at (M := (MX3_high g)) rfl dX3_high_14 (Or.inr rfl)) rfl
theorem eX3_high_15 : WP (MX3_high g) Q (15, [l0, l1], st, w, k, n) = WP (MX3_high g) Q (18, [l0, l1], .long 4294967296 :: st, w, k, n) := ldc2_e rfl dX3_high_15 rfl
theorem eX3_high_18 : WP (MX3_high g) Q (18, [l0, l1], .long y :: .long x :: st, w, k, n) = (¬ y = 0 ∧ WP (MX3_high g) Q (19, [l0, l1], .long (x / y) :: st, w, k, n)) := Eq.trans (WP_at (M := (MX3_high g)) rfl dX3_high_18 (Or.inr rfl)) rfl
theorem eX3_high_19 : WP (MX3_high g) Q (19, [l0, l1], .long x :: st, w, k, n) = WP (MX3_high g) Q (20, [l0, l1], .int x.toInt32 :: st, w, k, n) := Eq.trans (WP_at (M := (MX3_high g)) rfl dX3_high_19 (Or.inr rfl)) rfl
theorem eX3_high_20 : WP (MX3_high g) Q (20, [l0, l1], [.int a], w, k, n) = (k ≤ 0 ∧ n ≤ 0 ∧ Q (.inl (some (.int a))) w) := iretI_e rfl dX3_high_20 rfl
end
theorem wk_1239 : (.constantLong RX3 46 (4294967296) : Jvm.Cond) ∈ WS := WS_at 1239 (by decide +kernel) rfl
theorem vMX3_high {l : Launch} (hl : l.stackTraces = false) (G : GT) : vM l G (MX3_high (gg G)) := ⟨fun i c j h => lookup_all (l := (MX3_high (gg G)).fld) (P := fun i e => vFld RX3 i e.1 e.2) (all_n) i (c, j) h, fun i c fs h => lookup_all (l := (MX3_high (gg G)).new) (P := fun i e => vNew RX3 i e.1 e.2) (all_n) i (c, fs) h, lookup_all (l := (MX3_high (gg G)).anew) (P := fun i e => vANew RX3 i e) (all_n), lookup_all (l := (MX3_high (gg G)).lng) (P := fun i e => Jvm.Cond.constantLong RX3 i e ∈ WS) (all_c (wk_1239) (all_n)), lookup_all (l := (MX3_high (gg G)).thr) (P := fun i e => vThr RX3 cX3_high i e) (all_n), fun h => absurd rfl h, lookup_all (l := (MX3_high (gg G)).cal) (P := fun i e => vCal l G RX3 i e) (all_n), lookup_all (l := (MX3_high (gg G)).stt) (P := fun i e => vStt G RX3 i e) (all_n), lookup_all (l := (MX3_high (gg G)).cst) (P := fun i e => vCst RX3 i e) (all_n), fun h => absurd rfl h, rfl, all_n⟩
theorem okX3_high {l : Launch} (hl : l.stackTraces = false) {G : GT} : ∀ (args : List Value) (w : Hw) (S : Ot → Hw → Prop), spOf (MX3_high (gg G)) args w S → CX l G yX3_high (.code yX3_high cX3_high 2 (some .int)) 1 0 0 args w S := CX_sp (M := MX3_high (gg G)) (y := yX3_high) hl (by decide) rfl (vMX3_high hl G) (fun h => by cases h) rfl
