/-! Rangecard.needNumber(I)V -/
def spX1_needNumber : TF := fun args w S => match args with
  | [.int a] => if a < 0 then S (.inr "java/lang/IndexOutOfBoundsException") w else if 8 ≤ a then S (.inr "java/lang/IndexOutOfBoundsException") w else S (.inl none) w
  | _ => False
theorem dX1_needNumber_0 : decode cX1_needNumber 0 = .ok (.iload_n 0, 1) := by decide +kernel
theorem dX1_needNumber_1 : decode cX1_needNumber 1 = .ok (.ifCond .lt 9, 3) := by decide +kernel
theorem dX1_needNumber_4 : decode cX1_needNumber 4 = .ok (.iload_n 0, 1) := by decide +kernel
theorem dX1_needNumber_5 : decode cX1_needNumber 5 = .ok (.bipush 8, 2) := by decide +kernel
theorem dX1_needNumber_7 : decode cX1_needNumber 7 = .ok (.if_icmp .lt 13, 3) := by decide +kernel
theorem dX1_needNumber_10 : decode cX1_needNumber 10 = .ok (.new 240, 3) := by decide +kernel
theorem dX1_needNumber_13 : decode cX1_needNumber 13 = .ok (.dup, 1) := by decide +kernel
theorem dX1_needNumber_14 : decode cX1_needNumber 14 = .ok (.ldc 242, 2) := by decide +kernel
theorem dX1_needNumber_16 : decode cX1_needNumber 16 = .ok (.invokespecial 244, 3) := by decide +kernel
theorem dX1_needNumber_19 : decode cX1_needNumber 19 = .ok (.athrow, 1) := by decide +kernel
theorem dX1_needNumber_20 : decode cX1_needNumber 20 = .ok (.return_, 1) := by decide +kernel
def MX1_needNumber : MT := ((RX1, cX1_needNumber, 1, 6, 1, 6, false, none), [], [], [], [], [(10, "java/lang/IndexOutOfBoundsException")], 0, [])
section
variable {Q : Ot → Hw → Prop} {st : List Value} {w : Hw} {k n p q : Nat} {a b : Int32} {x y : Int64} {u v : Value} {l0 : Option Value}
theorem eX1_needNumber_0 : WP MX1_needNumber Q (0, [some (.int a)], st, w, k, n) = WP MX1_needNumber Q (1, [some (.int a)], .int a :: st, w, k, n) := Eq.trans (WP_at (M := MX1_needNumber) rfl dX1_needNumber_0 (Or.inr rfl)) rfl
theorem eX1_needNumber_1 : WP MX1_needNumber Q (1, [l0], .int a :: st, w, k, n) = if a < 0 then WP MX1_needNumber Q (10, [l0], st, w, k, n) else WP MX1_needNumber Q (4, [l0], st, w, k, n) := ifc_e (a < 0) rfl dX1_needNumber_1 rfl (by decide)
theorem eX1_needNumber_4 : WP MX1_needNumber Q (4, [some (.int a)], st, w, k, n) = WP MX1_needNumber Q (5, [some (.int a)], .int a :: st, w, k, n) := Eq.trans (WP_at (M := MX1_needNumber) rfl dX1_needNumber_4 (Or.inr rfl)) rfl
theorem eX1_needNumber_5 : WP MX1_needNumber Q (5, [l0], st, w, k, n) = WP MX1_needNumber Q (7, [l0], .int 8 :: st, w, k, n) := bipush_e rfl dX1_needNumber_5 (by decide)
theorem eX1_needNumber_7 : WP MX1_needNumber Q (7, [l0], .int b :: .int a :: st, w, k, n) = if a < b then WP MX1_needNumber Q (20, [l0], st, w, k, n) else WP MX1_needNumber Q (10, [l0], st, w, k, n) := icm_e (a < b) rfl dX1_needNumber_7 rfl (by decide)
theorem eX1_needNumber_10 : WP MX1_needNumber Q (10, [l0], st, w, k, n) = (k + 1 ≤ 1 ∧ n + 6 ≤ 6 ∧ wt st ≤ 8 ∧ 6 ≤ 6 ∧ Q (.inr "java/lang/IndexOutOfBoundsException") w) := WP_thr rfl
theorem eX1_needNumber_20 : WP MX1_needNumber Q (20, [l0], [], w, k, n) = (k ≤ 1 ∧ n ≤ 6 ∧ Q (.inl none) w) := vret_e rfl dX1_needNumber_20 rfl
end
theorem vX_RX1_240_244 : ∀ w ∈ vx_atS RX1 244 "java/lang/IndexOutOfBoundsException" exNames, ((w ∈ lw_tbl ∧ (goodWord w || isNW w) = true) ∨ w = .castable "java/lang/IndexOutOfBoundsException" "java/lang/IndexOutOfBoundsException") ∧ vx_ot w = true := by decide +kernel
theorem wk_356 : (.classLink RX1 240 "java/lang/IndexOutOfBoundsException" : Jvm.Cond) ∈ WS := WS_at 356 (by decide +kernel) rfl
theorem wk_72 : (.initialized "java/lang/IndexOutOfBoundsException" : Jvm.Cond) ∈ WS := WS_at 72 (by decide +kernel) rfl
theorem vMX1_needNumber {l : Launch} (hl : l.stackTraces = false) (G : GT) : vM l G MX1_needNumber := ⟨fun i c j h => lookup_all (l := MX1_needNumber.fld) (P := fun i e => vFld RX1 i e.1 e.2) (all_n) i (c, j) h, fun i c fs h => lookup_all (l := MX1_needNumber.new) (P := fun i e => vNew RX1 i e.1 e.2) (all_n) i (c, fs) h, lookup_all (l := MX1_needNumber.anew) (P := fun i e => vANew RX1 i e) (all_n), lookup_all (l := MX1_needNumber.lng) (P := fun i e => Jvm.Cond.constantLong RX1 i e ∈ WS) (all_n), lookup_all (l := MX1_needNumber.thr) (P := fun i e => vThr RX1 cX1_needNumber i e) (all_c (⟨240, 242, 244, "no such number", by decide, by decide +kernel, wk_356, wk_72, vX_RX1_240_244, by decide, dX1_needNumber_10, dX1_needNumber_13, dX1_needNumber_14, dX1_needNumber_16, dX1_needNumber_19⟩) (all_n)), fun h => absurd rfl h, lookup_all (l := MX1_needNumber.cal) (P := fun i e => vCal l G RX1 i e) (all_n)⟩
set_option maxHeartbeats 1000000 in
theorem okX1_needNumber {l : Launch} (hl : l.stackTraces = false) {G : GT} : ∀ (args : List Value) (w : Hw) (S : Ot → Hw → Prop), spX1_needNumber args w S → CX l G yX1_needNumber (.code yX1_needNumber cX1_needNumber 1 (none)) 6 1 6 args w S := by
  intro args w S h
  unfold spX1_needNumber at h
  split at h
  · next a =>
    refine CX_of (M := MX1_needNumber) (y := yX1_needNumber) hl (by decide) rfl (vMX1_needNumber hl G) (fun h => by cases h) (Nat.le_of_ble_eq_true rfl) ?_
    show WP MX1_needNumber S (0, [some (.int a)], [], w, 0, 0)
    simp only [eX1_needNumber_0, eX1_needNumber_1, eX1_needNumber_4, eX1_needNumber_5, eX1_needNumber_7, eX1_needNumber_10, eX1_needNumber_20]
    trace_state
    sorry
  · exact h.elim
