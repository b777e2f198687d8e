/-! Rangecard.<init>()V -/
theorem dX1_init_0 : decode cX1_init 0 = .ok (.aload_n 0, 1) := by decide +kernel
theorem dX1_init_1 : decode cX1_init 1 = .ok (.invokespecial 1, 3) := by decide +kernel
theorem dX1_init_4 : decode cX1_init 4 = .ok (.aload_n 0, 1) := by decide +kernel
theorem dX1_init_5 : decode cX1_init 5 = .ok (.bipush 8, 2) := by decide +kernel
theorem dX1_init_7 : decode cX1_init 7 = .ok (.newarray .long, 2) := by decide +kernel
theorem dX1_init_9 : decode cX1_init 9 = .ok (.putfield 9, 3) := by decide +kernel
theorem dX1_init_12 : decode cX1_init 12 = .ok (.aload_n 0, 1) := by decide +kernel
theorem dX1_init_13 : decode cX1_init 13 = .ok (.bipush 6, 2) := by decide +kernel
theorem dX1_init_15 : decode cX1_init 15 = .ok (.anewarray 13, 3) := by decide +kernel
theorem dX1_init_18 : decode cX1_init 18 = .ok (.putfield 15, 3) := by decide +kernel
theorem dX1_init_21 : decode cX1_init 21 = .ok (.aload_n 0, 1) := by decide +kernel
theorem dX1_init_22 : decode cX1_init 22 = .ok (.bipush 12, 2) := by decide +kernel
theorem dX1_init_24 : decode cX1_init 24 = .ok (.anewarray 13, 3) := by decide +kernel
theorem dX1_init_27 : decode cX1_init 27 = .ok (.putfield 19, 3) := by decide +kernel
theorem dX1_init_30 : decode cX1_init 30 = .ok (.aload_n 0, 1) := by decide +kernel
theorem dX1_init_31 : decode cX1_init 31 = .ok (.iconst 0, 1) := by decide +kernel
theorem dX1_init_32 : decode cX1_init 32 = .ok (.putfield 22, 3) := by decide +kernel
theorem dX1_init_35 : decode cX1_init 35 = .ok (.aload_n 0, 1) := by decide +kernel
theorem dX1_init_36 : decode cX1_init 36 = .ok (.iconst 0, 1) := by decide +kernel
theorem dX1_init_37 : decode cX1_init 37 = .ok (.putfield 26, 3) := by decide +kernel
theorem dX1_init_40 : decode cX1_init 40 = .ok (.aload_n 0, 1) := by decide +kernel
theorem dX1_init_41 : decode cX1_init 41 = .ok (.iconst 0, 1) := by decide +kernel
theorem dX1_init_42 : decode cX1_init 42 = .ok (.putfield 29, 3) := by decide +kernel
theorem dX1_init_45 : decode cX1_init 45 = .ok (.aload_n 0, 1) := by decide +kernel
theorem dX1_init_46 : decode cX1_init 46 = .ok (.iconst 0, 1) := by decide +kernel
theorem dX1_init_47 : decode cX1_init 47 = .ok (.putfield 32, 3) := by decide +kernel
theorem dX1_init_50 : decode cX1_init 50 = .ok (.return_, 1) := by decide +kernel
def MX1_init : MT := ((RX1, cX1_init, 1, 1, 3, 26, true, none), [(9, 5, 0), (15, 5, 1), (19, 5, 2), (22, 5, 3), (26, 5, 4), (29, 5, 5), (32, 5, 6)], [], [(13, 4)], [], [], 1, [])
section
variable {Q : Ot → Hw → Prop} {st : List Value} {w : Hw} {k n p q : Nat} {a b : Int32} {x y : Int64} {u v : Value} {l0 : Option Value}
theorem eX1_init_0 : WP MX1_init Q (0, [some (.ref p)], st, w, k, n) = WP MX1_init Q (1, [some (.ref p)], .ref p :: st, w, k, n) := Eq.trans (WP_at (M := MX1_init) rfl dX1_init_0 (Or.inr rfl)) rfl
theorem eX1_init_0N : WP MX1_init Q (0, [some .null], st, w, k, n) = WP MX1_init Q (1, [some .null], .null :: st, w, k, n) := Eq.trans (WP_at (M := MX1_init) rfl dX1_init_0 (Or.inr rfl)) rfl
theorem eX1_init_1 : WP MX1_init Q (1, [l0], .ref p :: st, w, k, n) = (wt st ≤ 8 ∧ WP MX1_init Q (4, [l0], st, w, k, n)) := obj_i rfl dX1_init_1 rfl rfl (by decide) (by decide)
theorem eX1_init_4 : WP MX1_init Q (4, [some (.ref p)], st, w, k, n) = WP MX1_init Q (5, [some (.ref p)], .ref p :: st, w, k, n) := Eq.trans (WP_at (M := MX1_init) rfl dX1_init_4 (Or.inr rfl)) rfl
theorem eX1_init_4N : WP MX1_init Q (4, [some .null], st, w, k, n) = WP MX1_init Q (5, [some .null], .null :: st, w, k, n) := Eq.trans (WP_at (M := MX1_init) rfl dX1_init_4 (Or.inr rfl)) rfl
theorem eX1_init_5 : WP MX1_init Q (5, [l0], st, w, k, n) = WP MX1_init Q (7, [l0], .int 8 :: st, w, k, n) := bipush_e rfl dX1_init_5 (by decide)
theorem eX1_init_7 : WP MX1_init Q (7, [l0], .int a :: st, w, k, n) = (¬ a < 0 ∧ a.toNatClampNeg ≤ 1000 ∧ k + 1 ≤ 3 ∧ n + a.toNatClampNeg ≤ 26 ∧ ∀ q : Nat, w q = none → WP MX1_init Q (9, [l0], .ref q :: st, upw w q (.inl (0, a.toNatClampNeg, .inr (.inl fun _ => 0))), k + 1, n + a.toNatClampNeg)) := Eq.trans (WP_at (M := MX1_init) rfl dX1_init_7 (Or.inr rfl)) rfl
theorem eX1_init_9 : WP MX1_init Q (9, [l0], v :: .ref p :: st, w, k, n) = go w p 5 fun fs => 0 < fs.length ∧ (narrow (tyX1 0) v = v ∧ fits (tyX1 0) v = true) ∧ WP MX1_init Q (12, [l0], st, upw w p (.inr (5, fs.set 0 v)), k, n) := put_e (q := (RX1, TX1, 7)) rfl dX1_init_9 rfl rfl (tyX1_ok 0 (by decide)) (Or.inr ⟨rfl, rfl⟩)
theorem eX1_init_12 : WP MX1_init Q (12, [some (.ref p)], st, w, k, n) = WP MX1_init Q (13, [some (.ref p)], .ref p :: st, w, k, n) := Eq.trans (WP_at (M := MX1_init) rfl dX1_init_12 (Or.inr rfl)) rfl
theorem eX1_init_12N : WP MX1_init Q (12, [some .null], st, w, k, n) = WP MX1_init Q (13, [some .null], .null :: st, w, k, n) := Eq.trans (WP_at (M := MX1_init) rfl dX1_init_12 (Or.inr rfl)) rfl
theorem eX1_init_13 : WP MX1_init Q (13, [l0], st, w, k, n) = WP MX1_init Q (15, [l0], .int 6 :: st, w, k, n) := bipush_e rfl dX1_init_13 (by decide)
theorem eX1_init_15 : WP MX1_init Q (15, [l0], .int a :: st, w, k, n) = (¬ a < 0 ∧ a.toNatClampNeg ≤ 1000 ∧ k + 1 ≤ 3 ∧ n + a.toNatClampNeg ≤ 26 ∧ ∀ q : Nat, w q = none → WP MX1_init Q (18, [l0], .ref q :: st, upw w q (.inl (4, a.toNatClampNeg, .inr (.inr (.inr (.inr fun _ => none))))), k + 1, n + a.toNatClampNeg)) := anew_e rfl dX1_init_15 rfl
theorem eX1_init_18 : WP MX1_init Q (18, [l0], v :: .ref p :: st, w, k, n) = go w p 5 fun fs => 1 < fs.length ∧ (narrow (tyX1 1) v = v ∧ fits (tyX1 1) v = true) ∧ WP MX1_init Q (21, [l0], st, upw w p (.inr (5, fs.set 1 v)), k, n) := put_e (q := (RX1, TX1, 7)) rfl dX1_init_18 rfl rfl (tyX1_ok 1 (by decide)) (Or.inr ⟨rfl, rfl⟩)
theorem eX1_init_21 : WP MX1_init Q (21, [some (.ref p)], st, w, k, n) = WP MX1_init Q (22, [some (.ref p)], .ref p :: st, w, k, n) := Eq.trans (WP_at (M := MX1_init) rfl dX1_init_21 (Or.inr rfl)) rfl
theorem eX1_init_21N : WP MX1_init Q (21, [some .null], st, w, k, n) = WP MX1_init Q (22, [some .null], .null :: st, w, k, n) := Eq.trans (WP_at (M := MX1_init) rfl dX1_init_21 (Or.inr rfl)) rfl
theorem eX1_init_22 : WP MX1_init Q (22, [l0], st, w, k, n) = WP MX1_init Q (24, [l0], .int 12 :: st, w, k, n) := bipush_e rfl dX1_init_22 (by decide)
theorem eX1_init_24 : WP MX1_init Q (24, [l0], .int a :: st, w, k, n) = (¬ a < 0 ∧ a.toNatClampNeg ≤ 1000 ∧ k + 1 ≤ 3 ∧ n + a.toNatClampNeg ≤ 26 ∧ ∀ q : Nat, w q = none → WP MX1_init Q (27, [l0], .ref q :: st, upw w q (.inl (4, a.toNatClampNeg, .inr (.inr (.inr (.inr fun _ => none))))), k + 1, n + a.toNatClampNeg)) := anew_e rfl dX1_init_24 rfl
theorem eX1_init_27 : WP MX1_init Q (27, [l0], v :: .ref p :: st, w, k, n) = go w p 5 fun fs => 2 < fs.length ∧ (narrow (tyX1 2) v = v ∧ fits (tyX1 2) v = true) ∧ WP MX1_init Q (30, [l0], st, upw w p (.inr (5, fs.set 2 v)), k, n) := put_e (q := (RX1, TX1, 7)) rfl dX1_init_27 rfl rfl (tyX1_ok 2 (by decide)) (Or.inr ⟨rfl, rfl⟩)
theorem eX1_init_30 : WP MX1_init Q (30, [some (.ref p)], st, w, k, n) = WP MX1_init Q (31, [some (.ref p)], .ref p :: st, w, k, n) := Eq.trans (WP_at (M := MX1_init) rfl dX1_init_30 (Or.inr rfl)) rfl
theorem eX1_init_30N : WP MX1_init Q (30, [some .null], st, w, k, n) = WP MX1_init Q (31, [some .null], .null :: st, w, k, n) := Eq.trans (WP_at (M := MX1_init) rfl dX1_init_30 (Or.inr rfl)) rfl
theorem eX1_init_31 : WP MX1_init Q (31, [l0], st, w, k, n) = WP MX1_init Q (32, [l0], .int 0 :: st, w, k, n) := iconst_e rfl dX1_init_31 (by decide)
theorem eX1_init_32 : WP MX1_init Q (32, [l0], v :: .ref p :: st, w, k, n) = go w p 5 fun fs => 3 < fs.length ∧ (narrow (.int) v = v ∧ fits (.int) v = true) ∧ WP MX1_init Q (35, [l0], st, upw w p (.inr (5, fs.set 3 v)), k, n) := put_e (q := (RX1, TX1, 7)) rfl dX1_init_32 rfl rfl (tyX1_ok 3 (by decide)) (Or.inl rfl)
theorem eX1_init_35 : WP MX1_init Q (35, [some (.ref p)], st, w, k, n) = WP MX1_init Q (36, [some (.ref p)], .ref p :: st, w, k, n) := Eq.trans (WP_at (M := MX1_init) rfl dX1_init_35 (Or.inr rfl)) rfl
theorem eX1_init_35N : WP MX1_init Q (35, [some .null], st, w, k, n) = WP MX1_init Q (36, [some .null], .null :: st, w, k, n) := Eq.trans (WP_at (M := MX1_init) rfl dX1_init_35 (Or.inr rfl)) rfl
theorem eX1_init_36 : WP MX1_init Q (36, [l0], st, w, k, n) = WP MX1_init Q (37, [l0], .int 0 :: st, w, k, n) := iconst_e rfl dX1_init_36 (by decide)
theorem eX1_init_37 : WP MX1_init Q (37, [l0], v :: .ref p :: st, w, k, n) = go w p 5 fun fs => 4 < fs.length ∧ (narrow (.int) v = v ∧ fits (.int) v = true) ∧ WP MX1_init Q (40, [l0], st, upw w p (.inr (5, fs.set 4 v)), k, n) := put_e (q := (RX1, TX1, 7)) rfl dX1_init_37 rfl rfl (tyX1_ok 4 (by decide)) (Or.inl rfl)
theorem eX1_init_40 : WP MX1_init Q (40, [some (.ref p)], st, w, k, n) = WP MX1_init Q (41, [some (.ref p)], .ref p :: st, w, k, n) := Eq.trans (WP_at (M := MX1_init) rfl dX1_init_40 (Or.inr rfl)) rfl
theorem eX1_init_40N : WP MX1_init Q (40, [some .null], st, w, k, n) = WP MX1_init Q (41, [some .null], .null :: st, w, k, n) := Eq.trans (WP_at (M := MX1_init) rfl dX1_init_40 (Or.inr rfl)) rfl
theorem eX1_init_41 : WP MX1_init Q (41, [l0], st, w, k, n) = WP MX1_init Q (42, [l0], .int 0 :: st, w, k, n) := iconst_e rfl dX1_init_41 (by decide)
theorem eX1_init_42 : WP MX1_init Q (42, [l0], v :: .ref p :: st, w, k, n) = go w p 5 fun fs => 5 < fs.length ∧ (narrow (.int) v = v ∧ fits (.int) v = true) ∧ WP MX1_init Q (45, [l0], st, upw w p (.inr (5, fs.set 5 v)), k, n) := put_e (q := (RX1, TX1, 7)) rfl dX1_init_42 rfl rfl (tyX1_ok 5 (by decide)) (Or.inl rfl)
theorem eX1_init_45 : WP MX1_init Q (45, [some (.ref p)], st, w, k, n) = WP MX1_init Q (46, [some (.ref p)], .ref p :: st, w, k, n) := Eq.trans (WP_at (M := MX1_init) rfl dX1_init_45 (Or.inr rfl)) rfl
theorem eX1_init_45N : WP MX1_init Q (45, [some .null], st, w, k, n) = WP MX1_init Q (46, [some .null], .null :: st, w, k, n) := Eq.trans (WP_at (M := MX1_init) rfl dX1_init_45 (Or.inr rfl)) rfl
theorem eX1_init_46 : WP MX1_init Q (46, [l0], st, w, k, n) = WP MX1_init Q (47, [l0], .int 0 :: st, w, k, n) := iconst_e rfl dX1_init_46 (by decide)
theorem eX1_init_47 : WP MX1_init Q (47, [l0], v :: .ref p :: st, w, k, n) = go w p 5 fun fs => 6 < fs.length ∧ (narrow (.int) v = v ∧ fits (.int) v = true) ∧ WP MX1_init Q (50, [l0], st, upw w p (.inr (5, fs.set 6 v)), k, n) := put_e (q := (RX1, TX1, 7)) rfl dX1_init_47 rfl rfl (tyX1_ok 6 (by decide)) (Or.inl rfl)
theorem eX1_init_50 : WP MX1_init Q (50, [l0], [], w, k, n) = (k ≤ 3 ∧ n ≤ 26 ∧ Q (.inl none) w) := vret_e rfl dX1_init_50 rfl
end
theorem wk_96 : (.classLink RX1 13 "Rangecard$Range" : Jvm.Cond) ∈ WS := WS_at 96 (by decide +kernel) rfl
theorem wk_93 : (.methodLink RX1 1 Lib.objectInit : Jvm.Cond) ∈ WS := WS_at 93 (by decide +kernel) rfl
theorem vMX1_init {l : Launch} (hl : l.stackTraces = false) (G : GT) : vM l G MX1_init := ⟨fun i c j h => lookup_all (l := MX1_init.fld) (P := fun i e => vFld RX1 i e.1 e.2) (all_c (vF_RX1_9) (all_c (vF_RX1_15) (all_c (vF_RX1_19) (all_c (vF_RX1_22) (all_c (vF_RX1_26) (all_c (vF_RX1_29) (all_c (vF_RX1_32) (all_n)))))))) i (c, j) h, fun i c fs h => lookup_all (l := MX1_init.new) (P := fun i e => vNew RX1 i e.1 e.2) (all_n) i (c, fs) h, lookup_all (l := MX1_init.anew) (P := fun i e => vANew RX1 i e) (all_c (⟨"Rangecard$Range", rfl, wk_96, by decide⟩) (all_n)), lookup_all (l := MX1_init.lng) (P := fun i e => Jvm.Cond.constantLong RX1 i e ∈ WS) (all_n), lookup_all (l := MX1_init.thr) (P := fun i e => vThr RX1 cX1_init i e) (all_n), fun _ => wk_93, lookup_all (l := MX1_init.cal) (P := fun i e => vCal l G RX1 i e) (all_n)⟩
theorem okX1_init {l : Launch} (hl : l.stackTraces = false) {G : GT} : ∀ (args : List Value) (w : Hw) (S : Ot → Hw → Prop), spOf MX1_init args w S → CX l G yX1_init (.code yX1_init cX1_init 1 (none)) 1 3 26 args w S := CX_sp (M := MX1_init) (y := yX1_init) hl (by decide) rfl (vMX1_init hl G) (fun h => rfl)
/-! Rangecard.set(III)I -/
theorem dX1_set_0 : decode cX1_set 0 = .ok (.iload_n 1, 1) := by decide +kernel
theorem dX1_set_1 : decode cX1_set 1 = .ok (.invokestatic 35, 3) := by decide +kernel
theorem dX1_set_4 : decode cX1_set 4 = .ok (.aload_n 0, 1) := by decide +kernel
theorem dX1_set_5 : decode cX1_set 5 = .ok (.getfield 9, 3) := by decide +kernel
theorem dX1_set_8 : decode cX1_set 8 = .ok (.iload_n 1, 1) := by decide +kernel
theorem dX1_set_9 : decode cX1_set 9 = .ok (.laload, 1) := by decide +kernel
theorem dX1_set_10 : decode cX1_set 10 = .ok (.invokestatic 39, 3) := by decide +kernel
theorem dX1_set_13 : decode cX1_set 13 = .ok (.istore 4, 2) := by decide +kernel
theorem dX1_set_15 : decode cX1_set 15 = .ok (.aload_n 0, 1) := by decide +kernel
theorem dX1_set_16 : decode cX1_set 16 = .ok (.getfield 9, 3) := by decide +kernel
theorem dX1_set_19 : decode cX1_set 19 = .ok (.iload_n 1, 1) := by decide +kernel
theorem dX1_set_20 : decode cX1_set 20 = .ok (.iload_n 2, 1) := by decide +kernel
theorem dX1_set_21 : decode cX1_set 21 = .ok (.i2l, 1) := by decide +kernel
theorem dX1_set_22 : decode cX1_set 22 = .ok (.bipush 32, 2) := by decide +kernel
theorem dX1_set_24 : decode cX1_set 24 = .ok (.lshl, 1) := by decide +kernel
theorem dX1_set_25 : decode cX1_set 25 = .ok (.iload_n 3, 1) := by decide +kernel
theorem dX1_set_26 : decode cX1_set 26 = .ok (.i2l, 1) := by decide +kernel
theorem dX1_set_27 : decode cX1_set 27 = .ok (.ldc2_w 43, 3) := by decide +kernel
theorem dX1_set_30 : decode cX1_set 30 = .ok (.land, 1) := by decide +kernel
theorem dX1_set_31 : decode cX1_set 31 = .ok (.lor, 1) := by decide +kernel
theorem dX1_set_32 : decode cX1_set 32 = .ok (.lastore, 1) := by decide +kernel
theorem dX1_set_33 : decode cX1_set 33 = .ok (.iload 4, 2) := by decide +kernel
theorem dX1_set_35 : decode cX1_set 35 = .ok (.ireturn, 1) := by decide +kernel
def MX1_set : MT := ((RX1, cX1_set, 5, 7, 1, 6, false, some .int), [(9, 5, 0)], [], [], [(43, 4294967295)], [], 0, [(35, 0, 1, 0, 6, 1, 6, yX1_needNumber, spOf MX1_needNumber), (39, 0, 1, 0, 1, 0, 0, yX1_highOf, spOf MX1_highOf)])
section
variable {Q : Ot → Hw → Prop} {st : List Value} {w : Hw} {k n p q : Nat} {a b : Int32} {x y : Int64} {u v : Value} {l0 l1 l2 l3 l4 : Option Value}
theorem eX1_set_0 : WP MX1_set Q (0, [l0, some (.int a), l2, l3, l4], st, w, k, n) = WP MX1_set Q (1, [l0, some (.int a), l2, l3, l4], .int a :: st, w, k, n) := Eq.trans (WP_at (M := MX1_set) rfl dX1_set_0 (Or.inr rfl)) rfl
theorem eX1_set_1 {z0 : Int32} : WP MX1_set Q (1, [l0, l1, l2, l3, l4], .int z0 :: st, w, k, n) = (wt st ≤ 8 ∧ k + 1 ≤ 1 ∧ n + 6 ≤ 6 ∧ WP MX1_needNumber (kx (fun v w' => WP MX1_set Q (4, [l0, l1, l2, l3, l4], v.toList ++ st, w', k + 1, n + 6)) (fun E w' => Q (.inr E) w')) (0, [some (.int z0)], [], w, 0, 0)) := csS (As := [.int z0]) (rest := st) MX1_needNumber rfl dX1_set_1 rfl (by decide) (by decide) (Nat.le_of_ble_eq_true rfl) rfl
theorem eX1_set_4 : WP MX1_set Q (4, [some (.ref p), l1, l2, l3, l4], st, w, k, n) = WP MX1_set Q (5, [some (.ref p), l1, l2, l3, l4], .ref p :: st, w, k, n) := Eq.trans (WP_at (M := MX1_set) rfl dX1_set_4 (Or.inr rfl)) rfl
theorem eX1_set_4N : WP MX1_set Q (4, [some .null, l1, l2, l3, l4], st, w, k, n) = WP MX1_set Q (5, [some .null, l1, l2, l3, l4], .null :: st, w, k, n) := Eq.trans (WP_at (M := MX1_set) rfl dX1_set_4 (Or.inr rfl)) rfl
theorem eX1_set_5 : WP MX1_set Q (5, [l0, l1, l2, l3, l4], .ref p :: st, w, k, n) = go w p 5 fun fs => ∃ v, fs[0]? = some v ∧ WP MX1_set Q (8, [l0, l1, l2, l3, l4], v :: st, w, k, n) := get_e rfl dX1_set_5 rfl
theorem eX1_set_8 : WP MX1_set Q (8, [l0, some (.int a), l2, l3, l4], st, w, k, n) = WP MX1_set Q (9, [l0, some (.int a), l2, l3, l4], .int a :: st, w, k, n) := Eq.trans (WP_at (M := MX1_set) rfl dX1_set_8 (Or.inr rfl)) rfl
theorem eX1_set_9 : WP MX1_set Q (9, [l0, l1, l2, l3, l4], .int a :: .ref p :: st, w, k, n) = gl w p 0 fun N f => vp_in a N ∧ WP MX1_set Q (10, [l0, l1, l2, l3, l4], .long (f a.toNatClampNeg) :: st, w, k, n) := Eq.trans (WP_at (M := MX1_set) rfl dX1_set_9 (Or.inr rfl)) rfl
theorem eX1_set_10 {z0 : Int64} : WP MX1_set Q (10, [l0, l1, l2, l3, l4], .long z0 :: st, w, k, n) = (wt st ≤ 8 ∧ k + 0 ≤ 1 ∧ n + 0 ≤ 6 ∧ WP MX1_highOf (kx (fun v w' => WP MX1_set Q (13, [l0, l1, l2, l3, l4], v.toList ++ st, w', k + 0, n + 0)) (fun E w' => Q (.inr E) w')) (0, [some (.long z0), none], [], w, 0, 0)) := csS (As := [.long z0]) (rest := st) MX1_highOf rfl dX1_set_10 rfl (by decide) (by decide) (Nat.le_of_ble_eq_true rfl) rfl
theorem eX1_set_13 : WP MX1_set Q (13, [l0, l1, l2, l3, l4], .int a :: st, w, k, n) = WP MX1_set Q (15, [l0, l1, l2, nl l3, some (.int a)], st, w, k, n) := by rw [WP_at (M := MX1_set) rfl dX1_set_13 (Or.inr rfl)]; exact and_t (Nat.le_of_ble_eq_true rfl)
theorem eX1_set_15 : WP MX1_set Q (15, [some (.ref p), l1, l2, l3, l4], st, w, k, n) = WP MX1_set Q (16, [some (.ref p), l1, l2, l3, l4], .ref p :: st, w, k, n) := Eq.trans (WP_at (M := MX1_set) rfl dX1_set_15 (Or.inr rfl)) rfl
theorem eX1_set_15N : WP MX1_set Q (15, [some .null, l1, l2, l3, l4], st, w, k, n) = WP MX1_set Q (16, [some .null, l1, l2, l3, l4], .null :: st, w, k, n) := Eq.trans (WP_at (M := MX1_set) rfl dX1_set_15 (Or.inr rfl)) rfl
theorem eX1_set_16 : WP MX1_set Q (16, [l0, l1, l2, l3, l4], .ref p :: st, w, k, n) = go w p 5 fun fs => ∃ v, fs[0]? = some v ∧ WP MX1_set Q (19, [l0, l1, l2, l3, l4], v :: st, w, k, n) := get_e rfl dX1_set_16 rfl
theorem eX1_set_19 : WP MX1_set Q (19, [l0, some (.int a), l2, l3, l4], st, w, k, n) = WP MX1_set Q (20, [l0, some (.int a), l2, l3, l4], .int a :: st, w, k, n) := Eq.trans (WP_at (M := MX1_set) rfl dX1_set_19 (Or.inr rfl)) rfl
theorem eX1_set_20 : WP MX1_set Q (20, [l0, l1, some (.int a), l3, l4], st, w, k, n) = WP MX1_set Q (21, [l0, l1, some (.int a), l3, l4], .int a :: st, w, k, n) := Eq.trans (WP_at (M := MX1_set) rfl dX1_set_20 (Or.inr rfl)) rfl
theorem eX1_set_21 : WP MX1_set Q (21, [l0, l1, l2, l3, l4], .int a :: st, w, k, n) = WP MX1_set Q (22, [l0, l1, l2, l3, l4], .long a.toInt64 :: st, w, k, n) := Eq.trans (WP_at (M := MX1_set) rfl dX1_set_21 (Or.inr rfl)) rfl
theorem eX1_set_22 : WP MX1_set Q (22, [l0, l1, l2, l3, l4], st, w, k, n) = WP MX1_set Q (24, [l0, l1, l2, l3, l4], .int 32 :: st, w, k, n) := bipush_e rfl dX1_set_22 (by decide)
theorem eX1_set_24 : WP MX1_set Q (24, [l0, l1, l2, l3, l4], .int b :: .long x :: st, w, k, n) = WP MX1_set Q (25, [l0, l1, l2, l3, l4], .long (x <<< (b.toInt64 &&& 63)) :: st, w, k, n) := Eq.trans (WP_at (M := MX1_set) rfl dX1_set_24 (Or.inr rfl)) rfl
theorem eX1_set_25 : WP MX1_set Q (25, [l0, l1, l2, some (.int a), l4], st, w, k, n) = WP MX1_set Q (26, [l0, l1, l2, some (.int a), l4], .int a :: st, w, k, n) := Eq.trans (WP_at (M := MX1_set) rfl dX1_set_25 (Or.inr rfl)) rfl
theorem eX1_set_26 : WP MX1_set Q (26, [l0, l1, l2, l3, l4], .int a :: st, w, k, n) = WP MX1_set Q (27, [l0, l1, l2, l3, l4], .long a.toInt64 :: st, w, k, n) := Eq.trans (WP_at (M := MX1_set) rfl dX1_set_26 (Or.inr rfl)) rfl
theorem eX1_set_27 : WP MX1_set Q (27, [l0, l1, l2, l3, l4], st, w, k, n) = WP MX1_set Q (30, [l0, l1, l2, l3, l4], .long 4294967295 :: st, w, k, n) := ldc2_e rfl dX1_set_27 rfl
theorem eX1_set_30 : WP MX1_set Q (30, [l0, l1, l2, l3, l4], .long y :: .long x :: st, w, k, n) = WP MX1_set Q (31, [l0, l1, l2, l3, l4], .long (x &&& y) :: st, w, k, n) := Eq.trans (WP_at (M := MX1_set) rfl dX1_set_30 (Or.inr rfl)) rfl
theorem eX1_set_31 : WP MX1_set Q (31, [l0, l1, l2, l3, l4], .long y :: .long x :: st, w, k, n) = WP MX1_set Q (32, [l0, l1, l2, l3, l4], .long (x ||| y) :: st, w, k, n) := Eq.trans (WP_at (M := MX1_set) rfl dX1_set_31 (Or.inr rfl)) rfl
theorem eX1_set_32 : WP MX1_set Q (32, [l0, l1, l2, l3, l4], .long x :: .int a :: .ref p :: st, w, k, n) = gl w p 0 fun N f => vp_in a N ∧ WP MX1_set Q (33, [l0, l1, l2, l3, l4], st, upw w p (.inl (0, N, .inr (.inl (vp_updL f a.toNatClampNeg x)))), k, n) := Eq.trans (WP_at (M := MX1_set) rfl dX1_set_32 (Or.inr rfl)) rfl
theorem eX1_set_33 : WP MX1_set Q (33, [l0, l1, l2, l3, some (.int a)], st, w, k, n) = WP MX1_set Q (35, [l0, l1, l2, l3, some (.int a)], .int a :: st, w, k, n) := Eq.trans (WP_at (M := MX1_set) rfl dX1_set_33 (Or.inr rfl)) rfl
theorem eX1_set_35 : WP MX1_set Q (35, [l0, l1, l2, l3, l4], [.int a], w, k, n) = (k ≤ 1 ∧ n ≤ 6 ∧ Q (.inl (some (.int a))) w) := (iret_e rfl dX1_set_35 rfl).trans (and_t rfl)
end
theorem wk_424 : (.constantLong RX1 43 (4294967295) : Jvm.Cond) ∈ WS := WS_at 424 (by decide +kernel) rfl
theorem wk_355 : (.code yX1_needNumber cX1_needNumber 1 (none) : Jvm.Cond) ∈ WS := WS_at 355 (by decide +kernel) rfl
theorem wk_353 : (.methodLink RX1 35 yX1_needNumber : Jvm.Cond) ∈ WS := WS_at 353 (by decide +kernel) rfl
theorem wk_354 : (.static yX1_needNumber : Jvm.Cond) ∈ WS := WS_at 354 (by decide +kernel) rfl
theorem vMX1_set {l : Launch} (hl : l.stackTraces = false) (G : GT) : vM l G MX1_set := ⟨fun i c j h => lookup_all (l := MX1_set.fld) (P := fun i e => vFld RX1 i e.1 e.2) (all_c (vF_RX1_9) (all_n)) i (c, j) h, fun i c fs h => lookup_all (l := MX1_set.new) (P := fun i e => vNew RX1 i e.1 e.2) (all_n) i (c, fs) h, lookup_all (l := MX1_set.anew) (P := fun i e => vANew RX1 i e) (all_n), lookup_all (l := MX1_set.lng) (P := fun i e => Jvm.Cond.constantLong RX1 i e ∈ WS) (all_c (wk_424) (all_n)), lookup_all (l := MX1_set.thr) (P := fun i e => vThr RX1 cX1_set i e) (all_n), fun h => absurd rfl h, lookup_all (l := MX1_set.cal) (P := fun i e => vCal l G RX1 i e) (all_c (⟨cX1_needNumber, 1, none, fun y hy => by subst hy; exact ⟨by decide, wk_355, okX1_needNumber hl, wk_59, ⟨by decide, by decide⟩, ⟨by decide +kernel, wk_353, wk_354⟩⟩⟩) (all_c (⟨cX1_highOf, 2, some .int, fun y hy => by subst hy; exact ⟨by decide, wk_274, okX1_highOf hl, wk_59, ⟨by decide, by decide⟩, ⟨by decide +kernel, wk_272, wk_273⟩⟩⟩) (all_n)))⟩
theorem okX1_set {l : Launch} (hl : l.stackTraces = false) {G : GT} : ∀ (args : List Value) (w : Hw) (S : Ot → Hw → Prop), spOf MX1_set args w S → CX l G yX1_set (.code yX1_set cX1_set 5 (some .int)) 7 1 6 args w S := CX_sp (M := MX1_set) (y := yX1_set) hl (by decide) rfl (vMX1_set hl G) (fun h => by cases h)
/-! Rangecard.setSmall(II)I -/
theorem dX1_setSmall_0 : decode cX1_setSmall 0 = .ok (.iload_n 1, 1) := by decide +kernel
theorem dX1_setSmall_1 : decode cX1_setSmall 1 = .ok (.invokestatic 35, 3) := by decide +kernel
theorem dX1_setSmall_4 : decode cX1_setSmall 4 = .ok (.aload_n 0, 1) := by decide +kernel
theorem dX1_setSmall_5 : decode cX1_setSmall 5 = .ok (.getfield 9, 3) := by decide +kernel
theorem dX1_setSmall_8 : decode cX1_setSmall 8 = .ok (.iload_n 1, 1) := by decide +kernel
theorem dX1_setSmall_9 : decode cX1_setSmall 9 = .ok (.laload, 1) := by decide +kernel
theorem dX1_setSmall_10 : decode cX1_setSmall 10 = .ok (.invokestatic 45, 3) := by decide +kernel
theorem dX1_setSmall_13 : decode cX1_setSmall 13 = .ok (.istore_n 3, 1) := by decide +kernel
theorem dX1_setSmall_14 : decode cX1_setSmall 14 = .ok (.aload_n 0, 1) := by decide +kernel
theorem dX1_setSmall_15 : decode cX1_setSmall 15 = .ok (.getfield 9, 3) := by decide +kernel
theorem dX1_setSmall_18 : decode cX1_setSmall 18 = .ok (.iload_n 1, 1) := by decide +kernel
theorem dX1_setSmall_19 : decode cX1_setSmall 19 = .ok (.iload_n 2, 1) := by decide +kernel
theorem dX1_setSmall_20 : decode cX1_setSmall 20 = .ok (.i2l, 1) := by decide +kernel
theorem dX1_setSmall_21 : decode cX1_setSmall 21 = .ok (.lastore, 1) := by decide +kernel
theorem dX1_setSmall_22 : decode cX1_setSmall 22 = .ok (.iload_n 3, 1) := by decide +kernel
theorem dX1_setSmall_23 : decode cX1_setSmall 23 = .ok (.ireturn, 1) := by decide +kernel
def MX1_setSmall : MT := ((RX1, cX1_setSmall, 4, 7, 1, 6, false, some .int), [(9, 5, 0)], [], [], [], [], 0, [(35, 0, 1, 0, 6, 1, 6, yX1_needNumber, spOf MX1_needNumber), (45, 0, 1, 0, 1, 0, 0, yX1_lowOf, spOf MX1_lowOf)])
section
variable {Q : Ot → Hw → Prop} {st : List Value} {w : Hw} {k n p q : Nat} {a b : Int32} {x y : Int64} {u v : Value} {l0 l1 l2 l3 : Option Value}
theorem eX1_setSmall_0 : WP MX1_setSmall Q (0, [l0, some (.int a), l2, l3], st, w, k, n) = WP MX1_setSmall Q (1, [l0, some (.int a), l2, l3], .int a :: st, w, k, n) := Eq.trans (WP_at (M := MX1_setSmall) rfl dX1_setSmall_0 (Or.inr rfl)) rfl
theorem eX1_setSmall_1 {z0 : Int32} : WP MX1_setSmall Q (1, [l0, l1, l2, l3], .int z0 :: st, w, k, n) = (wt st ≤ 8 ∧ k + 1 ≤ 1 ∧ n + 6 ≤ 6 ∧ WP MX1_needNumber (kx (fun v w' => WP MX1_setSmall Q (4, [l0, l1, l2, l3], v.toList ++ st, w', k + 1, n + 6)) (fun E w' => Q (.inr E) w')) (0, [some (.int z0)], [], w, 0, 0)) := csS (As := [.int z0]) (rest := st) MX1_needNumber rfl dX1_setSmall_1 rfl (by decide) (by decide) (Nat.le_of_ble_eq_true rfl) rfl
theorem eX1_setSmall_4 : WP MX1_setSmall Q (4, [some (.ref p), l1, l2, l3], st, w, k, n) = WP MX1_setSmall Q (5, [some (.ref p), l1, l2, l3], .ref p :: st, w, k, n) := Eq.trans (WP_at (M := MX1_setSmall) rfl dX1_setSmall_4 (Or.inr rfl)) rfl
theorem eX1_setSmall_4N : WP MX1_setSmall Q (4, [some .null, l1, l2, l3], st, w, k, n) = WP MX1_setSmall Q (5, [some .null, l1, l2, l3], .null :: st, w, k, n) := Eq.trans (WP_at (M := MX1_setSmall) rfl dX1_setSmall_4 (Or.inr rfl)) rfl
theorem eX1_setSmall_5 : WP MX1_setSmall Q (5, [l0, l1, l2, l3], .ref p :: st, w, k, n) = go w p 5 fun fs => ∃ v, fs[0]? = some v ∧ WP MX1_setSmall Q (8, [l0, l1, l2, l3], v :: st, w, k, n) := get_e rfl dX1_setSmall_5 rfl
theorem eX1_setSmall_8 : WP MX1_setSmall Q (8, [l0, some (.int a), l2, l3], st, w, k, n) = WP MX1_setSmall Q (9, [l0, some (.int a), l2, l3], .int a :: st, w, k, n) := Eq.trans (WP_at (M := MX1_setSmall) rfl dX1_setSmall_8 (Or.inr rfl)) rfl
theorem eX1_setSmall_9 : WP MX1_setSmall Q (9, [l0, l1, l2, l3], .int a :: .ref p :: st, w, k, n) = gl w p 0 fun N f => vp_in a N ∧ WP MX1_setSmall Q (10, [l0, l1, l2, l3], .long (f a.toNatClampNeg) :: st, w, k, n) := Eq.trans (WP_at (M := MX1_setSmall) rfl dX1_setSmall_9 (Or.inr rfl)) rfl
theorem eX1_setSmall_10 {z0 : Int64} : WP MX1_setSmall Q (10, [l0, l1, l2, l3], .long z0 :: st, w, k, n) = (wt st ≤ 8 ∧ k + 0 ≤ 1 ∧ n + 0 ≤ 6 ∧ WP MX1_lowOf (kx (fun v w' => WP MX1_setSmall Q (13, [l0, l1, l2, l3], v.toList ++ st, w', k + 0, n + 0)) (fun E w' => Q (.inr E) w')) (0, [some (.long z0), none], [], w, 0, 0)) := csS (As := [.long z0]) (rest := st) MX1_lowOf rfl dX1_setSmall_10 rfl (by decide) (by decide) (Nat.le_of_ble_eq_true rfl) rfl
theorem eX1_setSmall_13 : WP MX1_setSmall Q (13, [l0, l1, l2, l3], .int a :: st, w, k, n) = WP MX1_setSmall Q (14, [l0, l1, nl l2, some (.int a)], st, w, k, n) := by rw [WP_at (M := MX1_setSmall) rfl dX1_setSmall_13 (Or.inr rfl)]; exact and_t (Nat.le_of_ble_eq_true rfl)
theorem eX1_setSmall_14 : WP MX1_setSmall Q (14, [some (.ref p), l1, l2, l3], st, w, k, n) = WP MX1_setSmall Q (15, [some (.ref p), l1, l2, l3], .ref p :: st, w, k, n) := Eq.trans (WP_at (M := MX1_setSmall) rfl dX1_setSmall_14 (Or.inr rfl)) rfl
theorem eX1_setSmall_14N : WP MX1_setSmall Q (14, [some .null, l1, l2, l3], st, w, k, n) = WP MX1_setSmall Q (15, [some .null, l1, l2, l3], .null :: st, w, k, n) := Eq.trans (WP_at (M := MX1_setSmall) rfl dX1_setSmall_14 (Or.inr rfl)) rfl
theorem eX1_setSmall_15 : WP MX1_setSmall Q (15, [l0, l1, l2, l3], .ref p :: st, w, k, n) = go w p 5 fun fs => ∃ v, fs[0]? = some v ∧ WP MX1_setSmall Q (18, [l0, l1, l2, l3], v :: st, w, k, n) := get_e rfl dX1_setSmall_15 rfl
theorem eX1_setSmall_18 : WP MX1_setSmall Q (18, [l0, some (.int a), l2, l3], st, w, k, n) = WP MX1_setSmall Q (19, [l0, some (.int a), l2, l3], .int a :: st, w, k, n) := Eq.trans (WP_at (M := MX1_setSmall) rfl dX1_setSmall_18 (Or.inr rfl)) rfl
theorem eX1_setSmall_19 : WP MX1_setSmall Q (19, [l0, l1, some (.int a), l3], st, w, k, n) = WP MX1_setSmall Q (20, [l0, l1, some (.int a), l3], .int a :: st, w, k, n) := Eq.trans (WP_at (M := MX1_setSmall) rfl dX1_setSmall_19 (Or.inr rfl)) rfl
theorem eX1_setSmall_20 : WP MX1_setSmall Q (20, [l0, l1, l2, l3], .int a :: st, w, k, n) = WP MX1_setSmall Q (21, [l0, l1, l2, l3], .long a.toInt64 :: st, w, k, n) := Eq.trans (WP_at (M := MX1_setSmall) rfl dX1_setSmall_20 (Or.inr rfl)) rfl
theorem eX1_setSmall_21 : WP MX1_setSmall Q (21, [l0, l1, l2, l3], .long x :: .int a :: .ref p :: st, w, k, n) = gl w p 0 fun N f => vp_in a N ∧ WP MX1_setSmall Q (22, [l0, l1, l2, l3], st, upw w p (.inl (0, N, .inr (.inl (vp_updL f a.toNatClampNeg x)))), k, n) := Eq.trans (WP_at (M := MX1_setSmall) rfl dX1_setSmall_21 (Or.inr rfl)) rfl
theorem eX1_setSmall_22 : WP MX1_setSmall Q (22, [l0, l1, l2, some (.int a)], st, w, k, n) = WP MX1_setSmall Q (23, [l0, l1, l2, some (.int a)], .int a :: st, w, k, n) := Eq.trans (WP_at (M := MX1_setSmall) rfl dX1_setSmall_22 (Or.inr rfl)) rfl
theorem eX1_setSmall_23 : WP MX1_setSmall Q (23, [l0, l1, l2, l3], [.int a], w, k, n) = (k ≤ 1 ∧ n ≤ 6 ∧ Q (.inl (some (.int a))) w) := (iret_e rfl dX1_setSmall_23 rfl).trans (and_t rfl)
end
theorem vMX1_setSmall {l : Launch} (hl : l.stackTraces = false) (G : GT) : vM l G MX1_setSmall := ⟨fun i c j h => lookup_all (l := MX1_setSmall.fld) (P := fun i e => vFld RX1 i e.1 e.2) (all_c (vF_RX1_9) (all_n)) i (c, j) h, fun i c fs h => lookup_all (l := MX1_setSmall.new) (P := fun i e => vNew RX1 i e.1 e.2) (all_n) i (c, fs) h, lookup_all (l := MX1_setSmall.anew) (P := fun i e => vANew RX1 i e) (all_n), lookup_all (l := MX1_setSmall.lng) (P := fun i e => Jvm.Cond.constantLong RX1 i e ∈ WS) (all_n), lookup_all (l := MX1_setSmall.thr) (P := fun i e => vThr RX1 cX1_setSmall i e) (all_n), fun h => absurd rfl h, lookup_all (l := MX1_setSmall.cal) (P := fun i e => vCal l G RX1 i e) (all_c (⟨cX1_needNumber, 1, none, fun y hy => by subst hy; exact ⟨by decide, wk_355, okX1_needNumber hl, wk_59, ⟨by decide, by decide⟩, ⟨by decide +kernel, wk_353, wk_354⟩⟩⟩) (all_c (⟨cX1_lowOf, 2, some .int, fun y hy => by subst hy; exact ⟨by decide, wk_277, okX1_lowOf hl, wk_59, ⟨by decide, by decide⟩, ⟨by decide +kernel, wk_275, wk_276⟩⟩⟩) (all_n)))⟩
theorem okX1_setSmall {l : Launch} (hl : l.stackTraces = false) {G : GT} : ∀ (args : List Value) (w : Hw) (S : Ot → Hw → Prop), spOf MX1_setSmall args w S → CX l G yX1_setSmall (.code yX1_setSmall cX1_setSmall 4 (some .int)) 7 1 6 args w S := CX_sp (M := MX1_setSmall) (y := yX1_setSmall) hl (by decide) rfl (vMX1_setSmall hl G) (fun h => by cases h)
/-! Rangecard.setEnd(II)I -/
theorem dX1_setEnd_0 : decode cX1_setEnd 0 = .ok (.iload_n 1, 1) := by decide +kernel
theorem dX1_setEnd_1 : decode cX1_setEnd 1 = .ok (.invokestatic 35, 3) := by decide +kernel
theorem dX1_setEnd_4 : decode cX1_setEnd 4 = .ok (.iload_n 2, 1) := by decide +kernel
theorem dX1_setEnd_5 : decode cX1_setEnd 5 = .ok (.iconst 3, 1) := by decide +kernel
theorem dX1_setEnd_6 : decode cX1_setEnd 6 = .ok (.invokestatic 48, 3) := by decide +kernel
theorem dX1_setEnd_9 : decode cX1_setEnd 9 = .ok (.aload_n 0, 1) := by decide +kernel
theorem dX1_setEnd_10 : decode cX1_setEnd 10 = .ok (.iload_n 1, 1) := by decide +kernel
theorem dX1_setEnd_11 : decode cX1_setEnd 11 = .ok (.iload_n 2, 1) := by decide +kernel
theorem dX1_setEnd_12 : decode cX1_setEnd 12 = .ok (.invokestatic 52, 3) := by decide +kernel
theorem dX1_setEnd_15 : decode cX1_setEnd 15 = .ok (.invokevirtual 56, 3) := by decide +kernel
theorem dX1_setEnd_18 : decode cX1_setEnd 18 = .ok (.ireturn, 1) := by decide +kernel
def MX1_setEnd : MT := ((RX1, cX1_setEnd, 3, 7, 2, 12, false, some .int), [], [], [], [], [], 0, [(35, 0, 1, 0, 6, 1, 6, yX1_needNumber, spOf MX1_needNumber), (48, 0, 2, 0, 6, 1, 6, yX1_needChoice, spOf MX1_needChoice), (52, 0, 1, 0, 1, 0, 0, yX1_farNumber, spOf MX1_farNumber), (56, 2, 3, 5, 2, 0, 0, yX1_putNumber, spOf MX1_putNumber)])
section
variable {Q : Ot → Hw → Prop} {st : List Value} {w : Hw} {k n p q : Nat} {a b : Int32} {x y : Int64} {u v : Value} {l0 l1 l2 : Option Value}
theorem eX1_setEnd_0 : WP MX1_setEnd Q (0, [l0, some (.int a), l2], st, w, k, n) = WP MX1_setEnd Q (1, [l0, some (.int a), l2], .int a :: st, w, k, n) := Eq.trans (WP_at (M := MX1_setEnd) rfl dX1_setEnd_0 (Or.inr rfl)) rfl
theorem eX1_setEnd_1 {z0 : Int32} : WP MX1_setEnd Q (1, [l0, l1, l2], .int z0 :: st, w, k, n) = (wt st ≤ 8 ∧ k + 1 ≤ 2 ∧ n + 6 ≤ 12 ∧ WP MX1_needNumber (kx (fun v w' => WP MX1_setEnd Q (4, [l0, l1, l2], v.toList ++ st, w', k + 1, n + 6)) (fun E w' => Q (.inr E) w')) (0, [some (.int z0)], [], w, 0, 0)) := csS (As := [.int z0]) (rest := st) MX1_needNumber rfl dX1_setEnd_1 rfl (by decide) (by decide) (Nat.le_of_ble_eq_true rfl) rfl
theorem eX1_setEnd_4 : WP MX1_setEnd Q (4, [l0, l1, some (.int a)], st, w, k, n) = WP MX1_setEnd Q (5, [l0, l1, some (.int a)], .int a :: st, w, k, n) := Eq.trans (WP_at (M := MX1_setEnd) rfl dX1_setEnd_4 (Or.inr rfl)) rfl
theorem eX1_setEnd_5 : WP MX1_setEnd Q (5, [l0, l1, l2], st, w, k, n) = WP MX1_setEnd Q (6, [l0, l1, l2], .int 3 :: st, w, k, n) := iconst_e rfl dX1_setEnd_5 (by decide)
theorem eX1_setEnd_6 {z0 : Int32} {z1 : Int32} : WP MX1_setEnd Q (6, [l0, l1, l2], .int z1 :: .int z0 :: st, w, k, n) = (wt st ≤ 8 ∧ k + 1 ≤ 2 ∧ n + 6 ≤ 12 ∧ WP MX1_needChoice (kx (fun v w' => WP MX1_setEnd Q (9, [l0, l1, l2], v.toList ++ st, w', k + 1, n + 6)) (fun E w' => Q (.inr E) w')) (0, [some (.int z0), some (.int z1)], [], w, 0, 0)) := csS (As := [.int z0, .int z1]) (rest := st) MX1_needChoice rfl dX1_setEnd_6 rfl (by decide) (by decide) (Nat.le_of_ble_eq_true rfl) rfl
theorem eX1_setEnd_9 : WP MX1_setEnd Q (9, [some (.ref p), l1, l2], st, w, k, n) = WP MX1_setEnd Q (10, [some (.ref p), l1, l2], .ref p :: st, w, k, n) := Eq.trans (WP_at (M := MX1_setEnd) rfl dX1_setEnd_9 (Or.inr rfl)) rfl
theorem eX1_setEnd_9N : WP MX1_setEnd Q (9, [some .null, l1, l2], st, w, k, n) = WP MX1_setEnd Q (10, [some .null, l1, l2], .null :: st, w, k, n) := Eq.trans (WP_at (M := MX1_setEnd) rfl dX1_setEnd_9 (Or.inr rfl)) rfl
theorem eX1_setEnd_10 : WP MX1_setEnd Q (10, [l0, some (.int a), l2], st, w, k, n) = WP MX1_setEnd Q (11, [l0, some (.int a), l2], .int a :: st, w, k, n) := Eq.trans (WP_at (M := MX1_setEnd) rfl dX1_setEnd_10 (Or.inr rfl)) rfl
theorem eX1_setEnd_11 : WP MX1_setEnd Q (11, [l0, l1, some (.int a)], st, w, k, n) = WP MX1_setEnd Q (12, [l0, l1, some (.int a)], .int a :: st, w, k, n) := Eq.trans (WP_at (M := MX1_setEnd) rfl dX1_setEnd_11 (Or.inr rfl)) rfl
theorem eX1_setEnd_12 {z0 : Int32} : WP MX1_setEnd Q (12, [l0, l1, l2], .int z0 :: st, w, k, n) = (wt st ≤ 8 ∧ k + 0 ≤ 2 ∧ n + 0 ≤ 12 ∧ WP MX1_farNumber (kx (fun v w' => WP MX1_setEnd Q (15, [l0, l1, l2], v.toList ++ st, w', k + 0, n + 0)) (fun E w' => Q (.inr E) w')) (0, [some (.int z0)], [], w, 0, 0)) := csS (As := [.int z0]) (rest := st) MX1_farNumber rfl dX1_setEnd_12 rfl (by decide) (by decide) (Nat.le_of_ble_eq_true rfl) rfl
theorem eX1_setEnd_15 {z0 : Int32} {z1 : Int64} : WP MX1_setEnd Q (15, [l0, l1, l2], .long z1 :: .int z0 :: .ref p :: st, w, k, n) = (go w p 5 (fun _ => True) ∧ wt st ≤ 8 ∧ k + 0 ≤ 2 ∧ n + 0 ≤ 12 ∧ WP MX1_putNumber (kx (fun v w' => WP MX1_setEnd Q (18, [l0, l1, l2], v.toList ++ st, w', k + 0, n + 0)) (fun E w' => Q (.inr E) w')) (0, [some (.ref p), some (.int z0), some (.long z1), none], [], w, 0, 0)) := csV (As := [.int z0, .long z1]) (rest := st) MX1_putNumber rfl dX1_setEnd_15 rfl (by decide) (by decide) (Nat.le_of_ble_eq_true rfl) rfl
theorem eX1_setEnd_18 : WP MX1_setEnd Q (18, [l0, l1, l2], [.int a], w, k, n) = (k ≤ 2 ∧ n ≤ 12 ∧ Q (.inl (some (.int a))) w) := (iret_e rfl dX1_setEnd_18 rfl).trans (and_t rfl)
end
theorem wk_442 : (.code yX1_needChoice cX1_needChoice 2 (none) : Jvm.Cond) ∈ WS := WS_at 442 (by decide +kernel) rfl
theorem wk_440 : (.methodLink RX1 48 yX1_needChoice : Jvm.Cond) ∈ WS := WS_at 440 (by decide +kernel) rfl
theorem wk_441 : (.static yX1_needChoice : Jvm.Cond) ∈ WS := WS_at 441 (by decide +kernel) rfl
theorem wk_461 : (.code yX1_farNumber cX1_farNumber 1 (some .long) : Jvm.Cond) ∈ WS := WS_at 461 (by decide +kernel) rfl
theorem wk_459 : (.methodLink RX1 52 yX1_farNumber : Jvm.Cond) ∈ WS := WS_at 459 (by decide +kernel) rfl
theorem wk_460 : (.static yX1_farNumber : Jvm.Cond) ∈ WS := WS_at 460 (by decide +kernel) rfl
theorem wk_467 : (.code yX1_putNumber cX1_putNumber 4 (some .int) : Jvm.Cond) ∈ WS := WS_at 467 (by decide +kernel) rfl
theorem wk_464 : (.methodLink RX1 56 yX1_putNumber : Jvm.Cond) ∈ WS := WS_at 464 (by decide +kernel) rfl
theorem wk_466 : (.instanceMethod yX1_putNumber : Jvm.Cond) ∈ WS := WS_at 466 (by decide +kernel) rfl
theorem wk_28 : (.selects RX1 yX1_putNumber yX1_putNumber : Jvm.Cond) ∈ WS := WS_at 28 (by decide +kernel) rfl
theorem vMX1_setEnd {l : Launch} (hl : l.stackTraces = false) (G : GT) : vM l G MX1_setEnd := ⟨fun i c j h => lookup_all (l := MX1_setEnd.fld) (P := fun i e => vFld RX1 i e.1 e.2) (all_n) i (c, j) h, fun i c fs h => lookup_all (l := MX1_setEnd.new) (P := fun i e => vNew RX1 i e.1 e.2) (all_n) i (c, fs) h, lookup_all (l := MX1_setEnd.anew) (P := fun i e => vANew RX1 i e) (all_n), lookup_all (l := MX1_setEnd.lng) (P := fun i e => Jvm.Cond.constantLong RX1 i e ∈ WS) (all_n), lookup_all (l := MX1_setEnd.thr) (P := fun i e => vThr RX1 cX1_setEnd i e) (all_n), fun h => absurd rfl h, lookup_all (l := MX1_setEnd.cal) (P := fun i e => vCal l G RX1 i e) (all_c (⟨cX1_needNumber, 1, none, fun y hy => by subst hy; exact ⟨by decide, wk_355, okX1_needNumber hl, wk_59, ⟨by decide, by decide⟩, ⟨by decide +kernel, wk_353, wk_354⟩⟩⟩) (all_c (⟨cX1_needChoice, 2, none, fun y hy => by subst hy; exact ⟨by decide, wk_442, okX1_needChoice hl, wk_59, ⟨by decide, by decide⟩, ⟨by decide +kernel, wk_440, wk_441⟩⟩⟩) (all_c (⟨cX1_farNumber, 1, some .long, fun y hy => by subst hy; exact ⟨by decide, wk_461, okX1_farNumber hl, wk_59, ⟨by decide, by decide⟩, ⟨by decide +kernel, wk_459, wk_460⟩⟩⟩) (all_c (⟨cX1_putNumber, 4, some .int, fun y hy => by subst hy; exact ⟨by decide, wk_467, okX1_putNumber hl, wk_59, ⟨by decide, by decide⟩, ⟨by decide +kernel, wk_464, wk_466, wk_28, (RX1, TX1, 7), rfl, rfl⟩⟩⟩) (all_n)))))⟩
theorem okX1_setEnd {l : Launch} (hl : l.stackTraces = false) {G : GT} : ∀ (args : List Value) (w : Hw) (S : Ot → Hw → Prop), spOf MX1_setEnd args w S → CX l G yX1_setEnd (.code yX1_setEnd cX1_setEnd 3 (some .int)) 7 2 12 args w S := CX_sp (M := MX1_setEnd) (y := yX1_setEnd) hl (by decide) rfl (vMX1_setEnd hl G) (fun h => by cases h)
/-! Rangecard.move(II)I -/
theorem dX1_move_0 : decode cX1_move 0 = .ok (.iload_n 1, 1) := by decide +kernel
theorem dX1_move_1 : decode cX1_move 1 = .ok (.invokestatic 35, 3) := by decide +kernel
theorem dX1_move_4 : decode cX1_move 4 = .ok (.aload_n 0, 1) := by decide +kernel
theorem dX1_move_5 : decode cX1_move 5 = .ok (.iload_n 1, 1) := by decide +kernel
theorem dX1_move_6 : decode cX1_move 6 = .ok (.aload_n 0, 1) := by decide +kernel
theorem dX1_move_7 : decode cX1_move 7 = .ok (.getfield 9, 3) := by decide +kernel
theorem dX1_move_10 : decode cX1_move 10 = .ok (.iload_n 1, 1) := by decide +kernel
theorem dX1_move_11 : decode cX1_move 11 = .ok (.laload, 1) := by decide +kernel
theorem dX1_move_12 : decode cX1_move 12 = .ok (.iload_n 2, 1) := by decide +kernel
theorem dX1_move_13 : decode cX1_move 13 = .ok (.i2l, 1) := by decide +kernel
theorem dX1_move_14 : decode cX1_move 14 = .ok (.ladd, 1) := by decide +kernel
theorem dX1_move_15 : decode cX1_move 15 = .ok (.invokevirtual 56, 3) := by decide +kernel
theorem dX1_move_18 : decode cX1_move 18 = .ok (.ireturn, 1) := by decide +kernel
def MX1_move : MT := ((RX1, cX1_move, 3, 7, 1, 6, false, some .int), [(9, 5, 0)], [], [], [], [], 0, [(35, 0, 1, 0, 6, 1, 6, yX1_needNumber, spOf MX1_needNumber), (56, 2, 3, 5, 2, 0, 0, yX1_putNumber, spOf MX1_putNumber)])
section
variable {Q : Ot → Hw → Prop} {st : List Value} {w : Hw} {k n p q : Nat} {a b : Int32} {x y : Int64} {u v : Value} {l0 l1 l2 : Option Value}
theorem eX1_move_0 : WP MX1_move Q (0, [l0, some (.int a), l2], st, w, k, n) = WP MX1_move Q (1, [l0, some (.int a), l2], .int a :: st, w, k, n) := Eq.trans (WP_at (M := MX1_move) rfl dX1_move_0 (Or.inr rfl)) rfl
theorem eX1_move_1 {z0 : Int32} : WP MX1_move Q (1, [l0, l1, l2], .int z0 :: st, w, k, n) = (wt st ≤ 8 ∧ k + 1 ≤ 1 ∧ n + 6 ≤ 6 ∧ WP MX1_needNumber (kx (fun v w' => WP MX1_move Q (4, [l0, l1, l2], v.toList ++ st, w', k + 1, n + 6)) (fun E w' => Q (.inr E) w')) (0, [some (.int z0)], [], w, 0, 0)) := csS (As := [.int z0]) (rest := st) MX1_needNumber rfl dX1_move_1 rfl (by decide) (by decide) (Nat.le_of_ble_eq_true rfl) rfl
theorem eX1_move_4 : WP MX1_move Q (4, [some (.ref p), l1, l2], st, w, k, n) = WP MX1_move Q (5, [some (.ref p), l1, l2], .ref p :: st, w, k, n) := Eq.trans (WP_at (M := MX1_move) rfl dX1_move_4 (Or.inr rfl)) rfl
theorem eX1_move_4N : WP MX1_move Q (4, [some .null, l1, l2], st, w, k, n) = WP MX1_move Q (5, [some .null, l1, l2], .null :: st, w, k, n) := Eq.trans (WP_at (M := MX1_move) rfl dX1_move_4 (Or.inr rfl)) rfl
theorem eX1_move_5 : WP MX1_move Q (5, [l0, some (.int a), l2], st, w, k, n) = WP MX1_move Q (6, [l0, some (.int a), l2], .int a :: st, w, k, n) := Eq.trans (WP_at (M := MX1_move) rfl dX1_move_5 (Or.inr rfl)) rfl
theorem eX1_move_6 : WP MX1_move Q (6, [some (.ref p), l1, l2], st, w, k, n) = WP MX1_move Q (7, [some (.ref p), l1, l2], .ref p :: st, w, k, n) := Eq.trans (WP_at (M := MX1_move) rfl dX1_move_6 (Or.inr rfl)) rfl
theorem eX1_move_6N : WP MX1_move Q (6, [some .null, l1, l2], st, w, k, n) = WP MX1_move Q (7, [some .null, l1, l2], .null :: st, w, k, n) := Eq.trans (WP_at (M := MX1_move) rfl dX1_move_6 (Or.inr rfl)) rfl
theorem eX1_move_7 : WP MX1_move Q (7, [l0, l1, l2], .ref p :: st, w, k, n) = go w p 5 fun fs => ∃ v, fs[0]? = some v ∧ WP MX1_move Q (10, [l0, l1, l2], v :: st, w, k, n) := get_e rfl dX1_move_7 rfl
theorem eX1_move_10 : WP MX1_move Q (10, [l0, some (.int a), l2], st, w, k, n) = WP MX1_move Q (11, [l0, some (.int a), l2], .int a :: st, w, k, n) := Eq.trans (WP_at (M := MX1_move) rfl dX1_move_10 (Or.inr rfl)) rfl
theorem eX1_move_11 : WP MX1_move Q (11, [l0, l1, l2], .int a :: .ref p :: st, w, k, n) = gl w p 0 fun N f => vp_in a N ∧ WP MX1_move Q (12, [l0, l1, l2], .long (f a.toNatClampNeg) :: st, w, k, n) := Eq.trans (WP_at (M := MX1_move) rfl dX1_move_11 (Or.inr rfl)) rfl
theorem eX1_move_12 : WP MX1_move Q (12, [l0, l1, some (.int a)], st, w, k, n) = WP MX1_move Q (13, [l0, l1, some (.int a)], .int a :: st, w, k, n) := Eq.trans (WP_at (M := MX1_move) rfl dX1_move_12 (Or.inr rfl)) rfl
theorem eX1_move_13 : WP MX1_move Q (13, [l0, l1, l2], .int a :: st, w, k, n) = WP MX1_move Q (14, [l0, l1, l2], .long a.toInt64 :: st, w, k, n) := Eq.trans (WP_at (M := MX1_move) rfl dX1_move_13 (Or.inr rfl)) rfl
theorem eX1_move_14 : WP MX1_move Q (14, [l0, l1, l2], .long y :: .long x :: st, w, k, n) = WP MX1_move Q (15, [l0, l1, l2], .long (x + y) :: st, w, k, n) := Eq.trans (WP_at (M := MX1_move) rfl dX1_move_14 (Or.inr rfl)) rfl
theorem eX1_move_15 {z0 : Int32} {z1 : Int64} : WP MX1_move Q (15, [l0, l1, l2], .long z1 :: .int z0 :: .ref p :: st, w, k, n) = (go w p 5 (fun _ => True) ∧ wt st ≤ 8 ∧ k + 0 ≤ 1 ∧ n + 0 ≤ 6 ∧ WP MX1_putNumber (kx (fun v w' => WP MX1_move Q (18, [l0, l1, l2], v.toList ++ st, w', k + 0, n + 0)) (fun E w' => Q (.inr E) w')) (0, [some (.ref p), some (.int z0), some (.long z1), none], [], w, 0, 0)) := csV (As := [.int z0, .long z1]) (rest := st) MX1_putNumber rfl dX1_move_15 rfl (by decide) (by decide) (Nat.le_of_ble_eq_true rfl) rfl
theorem eX1_move_18 : WP MX1_move Q (18, [l0, l1, l2], [.int a], w, k, n) = (k ≤ 1 ∧ n ≤ 6 ∧ Q (.inl (some (.int a))) w) := (iret_e rfl dX1_move_18 rfl).trans (and_t rfl)
end
theorem vMX1_move {l : Launch} (hl : l.stackTraces = false) (G : GT) : vM l G MX1_move := ⟨fun i c j h => lookup_all (l := MX1_move.fld) (P := fun i e => vFld RX1 i e.1 e.2) (all_c (vF_RX1_9) (all_n)) i (c, j) h, fun i c fs h => lookup_all (l := MX1_move.new) (P := fun i e => vNew RX1 i e.1 e.2) (all_n) i (c, fs) h, lookup_all (l := MX1_move.anew) (P := fun i e => vANew RX1 i e) (all_n), lookup_all (l := MX1_move.lng) (P := fun i e => Jvm.Cond.constantLong RX1 i e ∈ WS) (all_n), lookup_all (l := MX1_move.thr) (P := fun i e => vThr RX1 cX1_move i e) (all_n), fun h => absurd rfl h, lookup_all (l := MX1_move.cal) (P := fun i e => vCal l G RX1 i e) (all_c (⟨cX1_needNumber, 1, none, fun y hy => by subst hy; exact ⟨by decide, wk_355, okX1_needNumber hl, wk_59, ⟨by decide, by decide⟩, ⟨by decide +kernel, wk_353, wk_354⟩⟩⟩) (all_c (⟨cX1_putNumber, 4, some .int, fun y hy => by subst hy; exact ⟨by decide, wk_467, okX1_putNumber hl, wk_59, ⟨by decide, by decide⟩, ⟨by decide +kernel, wk_464, wk_466, wk_28, (RX1, TX1, 7), rfl, rfl⟩⟩⟩) (all_n)))⟩
theorem okX1_move {l : Launch} (hl : l.stackTraces = false) {G : GT} : ∀ (args : List Value) (w : Hw) (S : Ot → Hw → Prop), spOf MX1_move args w S → CX l G yX1_move (.code yX1_move cX1_move 3 (some .int)) 7 1 6 args w S := CX_sp (M := MX1_move) (y := yX1_move) hl (by decide) rfl (vMX1_move hl G) (fun h => by cases h)
