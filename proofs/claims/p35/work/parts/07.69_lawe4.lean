/-! 69.lawe4.lean.txt -/
section
section
variable {g : RO} {Q : Ot → Hw → Prop} {st : List Value} {w : Hw} {k n p q : Nat} {a b : Int32} {x y : Int64} {u v : Value} {l0 l1 l2 l3 l4 l5 l6 : Option Value}
theorem eL_law_1558 : WP (ML_law g) Q (1558, [l0, l1, l2, l3, l4, l5, l6], .int b :: .int a :: st, w, k, n) = WP (ML_law g) Q (1559, [l0, l1, l2, l3, l4, l5, l6], .int (a + b) :: st, w, k, n) := iadd_e rfl (op_96 (bA_q qh_24 22 96 rfl))
theorem eL_law_1559 : WP (ML_law g) Q (1559, [l0, l1, l2, l3, l4, l5, l6], .int a :: .ref p :: st, w, k, n) = gi (rd g w p) 1 fun N f => vp_in a N ∧ WP (ML_law g) Q (1560, [l0, l1, l2, l3, l4, l5, l6], .int (f a.toNatClampNeg) :: st, w, k, n) := iaload_e rfl (op_46 (bA_q qh_24 23 46 rfl))
theorem eL_law_1560 {z0 : Int32} {z1 : Int32} : WP (ML_law g) Q (1560, [l0, l1, l2, l3, l4, l5, l6], .int z1 :: .int z0 :: .ref p :: st, w, k, n) = (go (rd g w p) 7 (fun _ => True) ∧ wt st ≤ 8 ∧ k + 0 ≤ 58408 ∧ n + 0 ≤ 1451408 ∧ WP (MX3_isValidSmall g) (kx (fun v w' => WP (ML_law g) Q (1563, [l0, l1, l2, l3, l4, l5, l6], v.toList ++ st, w', k + 0, n + 0)) (fun E w' => Q (.inr E) w')) (0, [some (.ref p), some (.int z0), some (.int z1)], [], w, 0, 0)) := csV0 (M := (ML_law g)) (mc := (fun _ _ => 0)) (ms := (fun _ _ => 0)) (As := [.int z0, .int z1]) (rest := st) (MX3_isValidSmall g) rfl rfl rfl (op_182 (bA_q qh_24 24 182 rfl) (bA_q qh_24 25 1 rfl) (bA_q qh_24 26 11 rfl) rfl) rfl rfl rfl rfl rfl rfl
theorem eL_law_1563 : WP (ML_law g) Q (1563, [l0, l1, l2, l3, l4, l5, l6], .int a :: st, w, k, n) = WP (ML_law g) Q (1565, [l0, l1, l2, l3, l4, nl l5, some (.int a)], st, w, k, n) := is_e rfl (op_54 (bA_q qh_24 27 54 rfl) (bA_q qh_24 28 6 rfl)) rfl rfl
theorem eL_law_1565 : WP (ML_law g) Q (1565, [l0, l1, l2, l3, l4, l5, l6], st, w, k, n) = WP (ML_law g) Q (2246, [l0, l1, l2, l3, l4, l5, l6], st, w, k, n) := goto_e rfl (op_167 (bA_q qh_24 29 167 rfl) (bA_q qh_24 30 2 rfl) (bA_q qh_24 31 169 rfl) rfl) (by decide)
theorem eL_law_1568 : WP (ML_law g) Q (1568, [l0, some (.ref p), l2, l3, l4, l5, l6], st, w, k, n) = WP (ML_law g) Q (1569, [l0, some (.ref p), l2, l3, l4, l5, l6], .ref p :: st, w, k, n) := alnR_e rfl (op_43 (bA_q qh_24 32 43 rfl)) rfl
theorem eL_law_1569 : WP (ML_law g) Q (1569, [some (.ref p), l1, l2, l3, l4, l5, l6], st, w, k, n) = WP (ML_law g) Q (1570, [some (.ref p), l1, l2, l3, l4, l5, l6], .ref p :: st, w, k, n) := alnR_e rfl (op_42 (bA_q qh_24 33 42 rfl)) rfl
theorem eL_law_1570 : WP (ML_law g) Q (1570, [l0, l1, l2, l3, some (.int a), l5, l6], st, w, k, n) = WP (ML_law g) Q (1572, [l0, l1, l2, l3, some (.int a), l5, l6], .int a :: st, w, k, n) := il_e rfl (op_21 (bA_q qh_24 34 21 rfl) (bA_q qh_24 35 4 rfl)) rfl
theorem eL_law_1572 : WP (ML_law g) Q (1572, [l0, l1, l2, l3, l4, l5, l6], st, w, k, n) = WP (ML_law g) Q (1573, [l0, l1, l2, l3, l4, l5, l6], .int 1 :: st, w, k, n) := ic_1 rfl (op_4 (bA_q qh_24 36 4 rfl))
theorem eL_law_1573 : WP (ML_law g) Q (1573, [l0, l1, l2, l3, l4, l5, l6], .int b :: .int a :: st, w, k, n) = WP (ML_law g) Q (1574, [l0, l1, l2, l3, l4, l5, l6], .int (a + b) :: st, w, k, n) := iadd_e rfl (op_96 (bA_q qh_24 37 96 rfl))
theorem eL_law_1574 : WP (ML_law g) Q (1574, [l0, l1, l2, l3, l4, l5, l6], .int a :: .ref p :: st, w, k, n) = gi (rd g w p) 1 fun N f => vp_in a N ∧ WP (ML_law g) Q (1575, [l0, l1, l2, l3, l4, l5, l6], .int (f a.toNatClampNeg) :: st, w, k, n) := iaload_e rfl (op_46 (bA_q qh_24 38 46 rfl))
theorem eL_law_1575 : WP (ML_law g) Q (1575, [some (.ref p), l1, l2, l3, l4, l5, l6], st, w, k, n) = WP (ML_law g) Q (1576, [some (.ref p), l1, l2, l3, l4, l5, l6], .ref p :: st, w, k, n) := alnR_e rfl (op_42 (bA_q qh_24 39 42 rfl)) rfl
theorem eL_law_1576 : WP (ML_law g) Q (1576, [l0, l1, l2, l3, some (.int a), l5, l6], st, w, k, n) = WP (ML_law g) Q (1578, [l0, l1, l2, l3, some (.int a), l5, l6], .int a :: st, w, k, n) := il_e rfl (op_21 (bA_q qh_24 40 21 rfl) (bA_q qh_24 41 4 rfl)) rfl
theorem eL_law_1578 : WP (ML_law g) Q (1578, [l0, l1, l2, l3, l4, l5, l6], st, w, k, n) = WP (ML_law g) Q (1579, [l0, l1, l2, l3, l4, l5, l6], .int 2 :: st, w, k, n) := ic_2 rfl (op_5 (bA_q qh_24 42 5 rfl))
theorem eL_law_1579 : WP (ML_law g) Q (1579, [l0, l1, l2, l3, l4, l5, l6], .int b :: .int a :: st, w, k, n) = WP (ML_law g) Q (1580, [l0, l1, l2, l3, l4, l5, l6], .int (a + b) :: st, w, k, n) := iadd_e rfl (op_96 (bA_q qh_24 43 96 rfl))
theorem eL_law_1580 : WP (ML_law g) Q (1580, [l0, l1, l2, l3, l4, l5, l6], .int a :: .ref p :: st, w, k, n) = gi (rd g w p) 1 fun N f => vp_in a N ∧ WP (ML_law g) Q (1581, [l0, l1, l2, l3, l4, l5, l6], .int (f a.toNatClampNeg) :: st, w, k, n) := iaload_e rfl (op_46 (bA_q qh_24 44 46 rfl))
theorem eL_law_1581 : WP (ML_law g) Q (1581, [l0, l1, l2, some (.ref p), l4, l5, l6], st, w, k, n) = WP (ML_law g) Q (1582, [l0, l1, l2, some (.ref p), l4, l5, l6], .ref p :: st, w, k, n) := alnR_e rfl (op_45 (bA_q qh_24 45 45 rfl)) rfl
theorem eL_law_1582RR {z0 : Nat} {z1 : Int32} {z2 : Int32} {z3 : Nat} : WP (ML_law g) Q (1582, [l0, l1, l2, l3, l4, l5, l6], .ref z3 :: .int z2 :: .int z1 :: .ref z0 :: st, w, k, n) = (wt st ≤ 8 ∧ k + 2 ≤ 58408 ∧ n + 12 ≤ 1451408 ∧ WP (ML_whichValid g) (kx (fun v w' => WP (ML_law g) Q (1585, [l0, l1, l2, l3, l4, l5, l6], v.toList ++ st, w', k + 2, n + 12)) (fun E w' => Q (.inr E) w')) (0, [some (.ref z0), some (.int z1), some (.int z2), some (.ref z3), none], [], w, 0, 0)) := csS0 (M := (ML_law g)) (mc := (fun _ _ => 2)) (ms := (fun _ _ => 12)) (As := [.ref z0, .int z1, .int z2, .ref z3]) (rest := st) (ML_whichValid g) rfl rfl rfl (op_184 (bA_q qh_24 46 184 rfl) (bA_q qh_24 47 1 rfl) (bA_q qh_24 48 12 rfl) rfl) rfl rfl rfl rfl rfl rfl rfl
theorem eL_law_1585 : WP (ML_law g) Q (1585, [l0, l1, l2, l3, l4, l5, l6], .int a :: st, w, k, n) = WP (ML_law g) Q (1587, [l0, l1, l2, l3, nl l4, some (.int a), l6], st, w, k, n) := is_e rfl (op_54 (bA_q qh_24 49 54 rfl) (bA_q qh_24 50 5 rfl)) rfl rfl
theorem eL_law_1587 : WP (ML_law g) Q (1587, [l0, l1, some (.ref p), l3, l4, l5, l6], st, w, k, n) = WP (ML_law g) Q (1588, [l0, l1, some (.ref p), l3, l4, l5, l6], .ref p :: st, w, k, n) := alnR_e rfl (op_44 (bA_q qh_24 51 44 rfl)) rfl
theorem eL_law_1588 : WP (ML_law g) Q (1588, [some (.ref p), l1, l2, l3, l4, l5, l6], st, w, k, n) = WP (ML_law g) Q (1589, [some (.ref p), l1, l2, l3, l4, l5, l6], .ref p :: st, w, k, n) := alnR_e rfl (op_42 (bA_q qh_24 52 42 rfl)) rfl
theorem eL_law_1589 : WP (ML_law g) Q (1589, [l0, l1, l2, l3, some (.int a), l5, l6], st, w, k, n) = WP (ML_law g) Q (1591, [l0, l1, l2, l3, some (.int a), l5, l6], .int a :: st, w, k, n) := il_e rfl (op_21 (bA_q qh_24 53 21 rfl) (bA_q qh_24 54 4 rfl)) rfl
theorem eL_law_1591 : WP (ML_law g) Q (1591, [l0, l1, l2, l3, l4, l5, l6], st, w, k, n) = WP (ML_law g) Q (1592, [l0, l1, l2, l3, l4, l5, l6], .int 1 :: st, w, k, n) := ic_1 rfl (op_4 (bA_q qh_24 55 4 rfl))
theorem eL_law_1592 : WP (ML_law g) Q (1592, [l0, l1, l2, l3, l4, l5, l6], .int b :: .int a :: st, w, k, n) = WP (ML_law g) Q (1593, [l0, l1, l2, l3, l4, l5, l6], .int (a + b) :: st, w, k, n) := iadd_e rfl (op_96 (bA_q qh_24 56 96 rfl))
theorem eL_law_1593 : WP (ML_law g) Q (1593, [l0, l1, l2, l3, l4, l5, l6], .int a :: .ref p :: st, w, k, n) = gi (rd g w p) 1 fun N f => vp_in a N ∧ WP (ML_law g) Q (1594, [l0, l1, l2, l3, l4, l5, l6], .int (f a.toNatClampNeg) :: st, w, k, n) := iaload_e rfl (op_46 (bA_q qh_24 57 46 rfl))
theorem eL_law_1594 : WP (ML_law g) Q (1594, [some (.ref p), l1, l2, l3, l4, l5, l6], st, w, k, n) = WP (ML_law g) Q (1595, [some (.ref p), l1, l2, l3, l4, l5, l6], .ref p :: st, w, k, n) := alnR_e rfl (op_42 (bA_q qh_24 58 42 rfl)) rfl
theorem eL_law_1595 : WP (ML_law g) Q (1595, [l0, l1, l2, l3, some (.int a), l5, l6], st, w, k, n) = WP (ML_law g) Q (1597, [l0, l1, l2, l3, some (.int a), l5, l6], .int a :: st, w, k, n) := il_e rfl (op_21 (bA_q qh_24 59 21 rfl) (bA_q qh_24 60 4 rfl)) rfl
theorem eL_law_1597 : WP (ML_law g) Q (1597, [l0, l1, l2, l3, l4, l5, l6], st, w, k, n) = WP (ML_law g) Q (1598, [l0, l1, l2, l3, l4, l5, l6], .int 2 :: st, w, k, n) := ic_2 rfl (op_5 (bA_q qh_24 61 5 rfl))
theorem eL_law_1598 : WP (ML_law g) Q (1598, [l0, l1, l2, l3, l4, l5, l6], .int b :: .int a :: st, w, k, n) = WP (ML_law g) Q (1599, [l0, l1, l2, l3, l4, l5, l6], .int (a + b) :: st, w, k, n) := iadd_e rfl (op_96 (bA_q qh_24 62 96 rfl))
theorem eL_law_1599 : WP (ML_law g) Q (1599, [l0, l1, l2, l3, l4, l5, l6], .int a :: .ref p :: st, w, k, n) = gi (rd g w p) 1 fun N f => vp_in a N ∧ WP (ML_law g) Q (1600, [l0, l1, l2, l3, l4, l5, l6], .int (f a.toNatClampNeg) :: st, w, k, n) := iaload_e rfl (op_46 (bA_q qh_24 63 46 rfl))
theorem eL_law_1600 {z0 : Int32} {z1 : Int32} : WP (ML_law g) Q (1600, [l0, l1, l2, l3, l4, l5, l6], .int z1 :: .int z0 :: .ref p :: st, w, k, n) = (go (rd g w p) 7 (fun _ => True) ∧ wt st ≤ 8 ∧ k + 0 ≤ 58408 ∧ n + 0 ≤ 1451408 ∧ WP (MX3_whichValid g) (kx (fun v w' => WP (ML_law g) Q (1603, [l0, l1, l2, l3, l4, l5, l6], v.toList ++ st, w', k + 0, n + 0)) (fun E w' => Q (.inr E) w')) (0, [some (.ref p), some (.int z0), some (.int z1)], [], w, 0, 0)) := csV0 (M := (ML_law g)) (mc := (fun _ _ => 0)) (ms := (fun _ _ => 0)) (As := [.int z0, .int z1]) (rest := st) (MX3_whichValid g) rfl rfl rfl (op_182 (bA_q qh_25 0 182 rfl) (bA_q qh_25 1 1 rfl) (bA_q qh_25 2 14 rfl) rfl) rfl rfl rfl rfl rfl rfl
theorem eL_law_1603 : WP (ML_law g) Q (1603, [l0, l1, l2, l3, l4, l5, l6], .int a :: st, w, k, n) = WP (ML_law g) Q (1605, [l0, l1, l2, l3, l4, nl l5, some (.int a)], st, w, k, n) := is_e rfl (op_54 (bA_q qh_25 3 54 rfl) (bA_q qh_25 4 6 rfl)) rfl rfl
theorem eL_law_1605 : WP (ML_law g) Q (1605, [l0, l1, l2, l3, l4, l5, l6], st, w, k, n) = WP (ML_law g) Q (2246, [l0, l1, l2, l3, l4, l5, l6], st, w, k, n) := goto_e rfl (op_167 (bA_q qh_25 5 167 rfl) (bA_q qh_25 6 2 rfl) (bA_q qh_25 7 129 rfl) rfl) (by decide)
theorem eL_law_1608 : WP (ML_law g) Q (1608, [l0, some (.ref p), l2, l3, l4, l5, l6], st, w, k, n) = WP (ML_law g) Q (1609, [l0, some (.ref p), l2, l3, l4, l5, l6], .ref p :: st, w, k, n) := alnR_e rfl (op_43 (bA_q qh_25 8 43 rfl)) rfl
theorem eL_law_1609 : WP (ML_law g) Q (1609, [some (.ref p), l1, l2, l3, l4, l5, l6], st, w, k, n) = WP (ML_law g) Q (1610, [some (.ref p), l1, l2, l3, l4, l5, l6], .ref p :: st, w, k, n) := alnR_e rfl (op_42 (bA_q qh_25 9 42 rfl)) rfl
theorem eL_law_1610 : WP (ML_law g) Q (1610, [l0, l1, l2, l3, some (.int a), l5, l6], st, w, k, n) = WP (ML_law g) Q (1612, [l0, l1, l2, l3, some (.int a), l5, l6], .int a :: st, w, k, n) := il_e rfl (op_21 (bA_q qh_25 10 21 rfl) (bA_q qh_25 11 4 rfl)) rfl
theorem eL_law_1612 : WP (ML_law g) Q (1612, [l0, l1, l2, l3, l4, l5, l6], st, w, k, n) = WP (ML_law g) Q (1613, [l0, l1, l2, l3, l4, l5, l6], .int 1 :: st, w, k, n) := ic_1 rfl (op_4 (bA_q qh_25 12 4 rfl))
theorem eL_law_1613 : WP (ML_law g) Q (1613, [l0, l1, l2, l3, l4, l5, l6], .int b :: .int a :: st, w, k, n) = WP (ML_law g) Q (1614, [l0, l1, l2, l3, l4, l5, l6], .int (a + b) :: st, w, k, n) := iadd_e rfl (op_96 (bA_q qh_25 13 96 rfl))
theorem eL_law_1614 : WP (ML_law g) Q (1614, [l0, l1, l2, l3, l4, l5, l6], .int a :: .ref p :: st, w, k, n) = gi (rd g w p) 1 fun N f => vp_in a N ∧ WP (ML_law g) Q (1615, [l0, l1, l2, l3, l4, l5, l6], .int (f a.toNatClampNeg) :: st, w, k, n) := iaload_e rfl (op_46 (bA_q qh_25 14 46 rfl))
theorem eL_law_1615 : WP (ML_law g) Q (1615, [some (.ref p), l1, l2, l3, l4, l5, l6], st, w, k, n) = WP (ML_law g) Q (1616, [some (.ref p), l1, l2, l3, l4, l5, l6], .ref p :: st, w, k, n) := alnR_e rfl (op_42 (bA_q qh_25 15 42 rfl)) rfl
theorem eL_law_1616 : WP (ML_law g) Q (1616, [l0, l1, l2, l3, some (.int a), l5, l6], st, w, k, n) = WP (ML_law g) Q (1618, [l0, l1, l2, l3, some (.int a), l5, l6], .int a :: st, w, k, n) := il_e rfl (op_21 (bA_q qh_25 16 21 rfl) (bA_q qh_25 17 4 rfl)) rfl
theorem eL_law_1618 : WP (ML_law g) Q (1618, [l0, l1, l2, l3, l4, l5, l6], st, w, k, n) = WP (ML_law g) Q (1619, [l0, l1, l2, l3, l4, l5, l6], .int 2 :: st, w, k, n) := ic_2 rfl (op_5 (bA_q qh_25 18 5 rfl))
theorem eL_law_1619 : WP (ML_law g) Q (1619, [l0, l1, l2, l3, l4, l5, l6], .int b :: .int a :: st, w, k, n) = WP (ML_law g) Q (1620, [l0, l1, l2, l3, l4, l5, l6], .int (a + b) :: st, w, k, n) := iadd_e rfl (op_96 (bA_q qh_25 19 96 rfl))
theorem eL_law_1620 : WP (ML_law g) Q (1620, [l0, l1, l2, l3, l4, l5, l6], .int a :: .ref p :: st, w, k, n) = gi (rd g w p) 1 fun N f => vp_in a N ∧ WP (ML_law g) Q (1621, [l0, l1, l2, l3, l4, l5, l6], .int (f a.toNatClampNeg) :: st, w, k, n) := iaload_e rfl (op_46 (bA_q qh_25 20 46 rfl))
theorem eL_law_1621 : WP (ML_law g) Q (1621, [some (.ref p), l1, l2, l3, l4, l5, l6], st, w, k, n) = WP (ML_law g) Q (1622, [some (.ref p), l1, l2, l3, l4, l5, l6], .ref p :: st, w, k, n) := alnR_e rfl (op_42 (bA_q qh_25 21 42 rfl)) rfl
theorem eL_law_1622 : WP (ML_law g) Q (1622, [l0, l1, l2, l3, some (.int a), l5, l6], st, w, k, n) = WP (ML_law g) Q (1624, [l0, l1, l2, l3, some (.int a), l5, l6], .int a :: st, w, k, n) := il_e rfl (op_21 (bA_q qh_25 22 21 rfl) (bA_q qh_25 23 4 rfl)) rfl
theorem eL_law_1624 : WP (ML_law g) Q (1624, [l0, l1, l2, l3, l4, l5, l6], st, w, k, n) = WP (ML_law g) Q (1625, [l0, l1, l2, l3, l4, l5, l6], .int 3 :: st, w, k, n) := ic_3 rfl (op_6 (bA_q qh_25 24 6 rfl))
theorem eL_law_1625 : WP (ML_law g) Q (1625, [l0, l1, l2, l3, l4, l5, l6], .int b :: .int a :: st, w, k, n) = WP (ML_law g) Q (1626, [l0, l1, l2, l3, l4, l5, l6], .int (a + b) :: st, w, k, n) := iadd_e rfl (op_96 (bA_q qh_25 25 96 rfl))
theorem eL_law_1626 : WP (ML_law g) Q (1626, [l0, l1, l2, l3, l4, l5, l6], .int a :: .ref p :: st, w, k, n) = gi (rd g w p) 1 fun N f => vp_in a N ∧ WP (ML_law g) Q (1627, [l0, l1, l2, l3, l4, l5, l6], .int (f a.toNatClampNeg) :: st, w, k, n) := iaload_e rfl (op_46 (bA_q qh_25 26 46 rfl))
theorem eL_law_1627 : WP (ML_law g) Q (1627, [l0, l1, l2, l3, l4, l5, l6], .int a :: st, w, k, n) = if a = 0 then WP (ML_law g) Q (1634, [l0, l1, l2, l3, l4, l5, l6], st, w, k, n) else WP (ML_law g) Q (1630, [l0, l1, l2, l3, l4, l5, l6], st, w, k, n) := ifc_e (a = 0) rfl (op_153 (bA_q qh_25 27 153 rfl) (bA_q qh_25 28 0 rfl) (bA_q qh_25 29 7 rfl) rfl) rfl (by decide)
theorem eL_law_1630 : WP (ML_law g) Q (1630, [l0, l1, l2, l3, l4, l5, l6], st, w, k, n) = WP (ML_law g) Q (1631, [l0, l1, l2, l3, l4, l5, l6], .int 1 :: st, w, k, n) := ic_1 rfl (op_4 (bA_q qh_25 30 4 rfl))
theorem eL_law_1631 : WP (ML_law g) Q (1631, [l0, l1, l2, l3, l4, l5, l6], st, w, k, n) = WP (ML_law g) Q (1635, [l0, l1, l2, l3, l4, l5, l6], st, w, k, n) := goto_e rfl (op_167 (bA_q qh_25 31 167 rfl) (bA_q qh_25 32 0 rfl) (bA_q qh_25 33 4 rfl) rfl) (by decide)
theorem eL_law_1634 : WP (ML_law g) Q (1634, [l0, l1, l2, l3, l4, l5, l6], st, w, k, n) = WP (ML_law g) Q (1635, [l0, l1, l2, l3, l4, l5, l6], .int 0 :: st, w, k, n) := ic_0 rfl (op_3 (bA_q qh_25 34 3 rfl))
theorem eL_law_1635 : WP (ML_law g) Q (1635, [l0, l1, l2, some (.ref p), l4, l5, l6], st, w, k, n) = WP (ML_law g) Q (1636, [l0, l1, l2, some (.ref p), l4, l5, l6], .ref p :: st, w, k, n) := alnR_e rfl (op_45 (bA_q qh_25 35 45 rfl)) rfl
theorem eL_law_1636RR {z0 : Nat} {z1 : Int32} {z2 : Int32} {z3 : Int32} {z4 : Nat} : WP (ML_law g) Q (1636, [l0, l1, l2, l3, l4, l5, l6], .ref z4 :: .int z3 :: .int z2 :: .int z1 :: .ref z0 :: st, w, k, n) = (wt st ≤ 8 ∧ k + 4 ≤ 58408 ∧ n + 24 ≤ 1451408 ∧ WP (ML_around g) (kx (fun v w' => WP (ML_law g) Q (1639, [l0, l1, l2, l3, l4, l5, l6], v.toList ++ st, w', k + 4, n + 24)) (fun E w' => Q (.inr E) w')) (0, [some (.ref z0), some (.int z1), some (.int z2), some (.int z3), some (.ref z4), none], [], w, 0, 0)) := csS0 (M := (ML_law g)) (mc := (fun _ _ => 4)) (ms := (fun _ _ => 24)) (As := [.ref z0, .int z1, .int z2, .int z3, .ref z4]) (rest := st) (ML_around g) rfl rfl rfl (op_184 (bA_q qh_25 36 184 rfl) (bA_q qh_25 37 1 rfl) (bA_q qh_25 38 15 rfl) rfl) rfl rfl rfl rfl rfl rfl rfl
theorem eL_law_1639 : WP (ML_law g) Q (1639, [l0, l1, l2, l3, l4, l5, l6], .int a :: st, w, k, n) = WP (ML_law g) Q (1641, [l0, l1, l2, l3, nl l4, some (.int a), l6], st, w, k, n) := is_e rfl (op_54 (bA_q qh_25 39 54 rfl) (bA_q qh_25 40 5 rfl)) rfl rfl
theorem eL_law_1641 : WP (ML_law g) Q (1641, [l0, l1, some (.ref p), l3, l4, l5, l6], st, w, k, n) = WP (ML_law g) Q (1642, [l0, l1, some (.ref p), l3, l4, l5, l6], .ref p :: st, w, k, n) := alnR_e rfl (op_44 (bA_q qh_25 41 44 rfl)) rfl
theorem eL_law_1642 : WP (ML_law g) Q (1642, [some (.ref p), l1, l2, l3, l4, l5, l6], st, w, k, n) = WP (ML_law g) Q (1643, [some (.ref p), l1, l2, l3, l4, l5, l6], .ref p :: st, w, k, n) := alnR_e rfl (op_42 (bA_q qh_25 42 42 rfl)) rfl
theorem eL_law_1643 : WP (ML_law g) Q (1643, [l0, l1, l2, l3, some (.int a), l5, l6], st, w, k, n) = WP (ML_law g) Q (1645, [l0, l1, l2, l3, some (.int a), l5, l6], .int a :: st, w, k, n) := il_e rfl (op_21 (bA_q qh_25 43 21 rfl) (bA_q qh_25 44 4 rfl)) rfl
theorem eL_law_1645 : WP (ML_law g) Q (1645, [l0, l1, l2, l3, l4, l5, l6], st, w, k, n) = WP (ML_law g) Q (1646, [l0, l1, l2, l3, l4, l5, l6], .int 1 :: st, w, k, n) := ic_1 rfl (op_4 (bA_q qh_25 45 4 rfl))
theorem eL_law_1646 : WP (ML_law g) Q (1646, [l0, l1, l2, l3, l4, l5, l6], .int b :: .int a :: st, w, k, n) = WP (ML_law g) Q (1647, [l0, l1, l2, l3, l4, l5, l6], .int (a + b) :: st, w, k, n) := iadd_e rfl (op_96 (bA_q qh_25 46 96 rfl))
theorem eL_law_1647 : WP (ML_law g) Q (1647, [l0, l1, l2, l3, l4, l5, l6], .int a :: .ref p :: st, w, k, n) = gi (rd g w p) 1 fun N f => vp_in a N ∧ WP (ML_law g) Q (1648, [l0, l1, l2, l3, l4, l5, l6], .int (f a.toNatClampNeg) :: st, w, k, n) := iaload_e rfl (op_46 (bA_q qh_25 47 46 rfl))
theorem eL_law_1648 : WP (ML_law g) Q (1648, [some (.ref p), l1, l2, l3, l4, l5, l6], st, w, k, n) = WP (ML_law g) Q (1649, [some (.ref p), l1, l2, l3, l4, l5, l6], .ref p :: st, w, k, n) := alnR_e rfl (op_42 (bA_q qh_25 48 42 rfl)) rfl
theorem eL_law_1649 : WP (ML_law g) Q (1649, [l0, l1, l2, l3, some (.int a), l5, l6], st, w, k, n) = WP (ML_law g) Q (1651, [l0, l1, l2, l3, some (.int a), l5, l6], .int a :: st, w, k, n) := il_e rfl (op_21 (bA_q qh_25 49 21 rfl) (bA_q qh_25 50 4 rfl)) rfl
theorem eL_law_1651 : WP (ML_law g) Q (1651, [l0, l1, l2, l3, l4, l5, l6], st, w, k, n) = WP (ML_law g) Q (1652, [l0, l1, l2, l3, l4, l5, l6], .int 2 :: st, w, k, n) := ic_2 rfl (op_5 (bA_q qh_25 51 5 rfl))
theorem eL_law_1652 : WP (ML_law g) Q (1652, [l0, l1, l2, l3, l4, l5, l6], .int b :: .int a :: st, w, k, n) = WP (ML_law g) Q (1653, [l0, l1, l2, l3, l4, l5, l6], .int (a + b) :: st, w, k, n) := iadd_e rfl (op_96 (bA_q qh_25 52 96 rfl))
theorem eL_law_1653 : WP (ML_law g) Q (1653, [l0, l1, l2, l3, l4, l5, l6], .int a :: .ref p :: st, w, k, n) = gi (rd g w p) 1 fun N f => vp_in a N ∧ WP (ML_law g) Q (1654, [l0, l1, l2, l3, l4, l5, l6], .int (f a.toNatClampNeg) :: st, w, k, n) := iaload_e rfl (op_46 (bA_q qh_25 53 46 rfl))
theorem eL_law_1654 : WP (ML_law g) Q (1654, [some (.ref p), l1, l2, l3, l4, l5, l6], st, w, k, n) = WP (ML_law g) Q (1655, [some (.ref p), l1, l2, l3, l4, l5, l6], .ref p :: st, w, k, n) := alnR_e rfl (op_42 (bA_q qh_25 54 42 rfl)) rfl
theorem eL_law_1655 : WP (ML_law g) Q (1655, [l0, l1, l2, l3, some (.int a), l5, l6], st, w, k, n) = WP (ML_law g) Q (1657, [l0, l1, l2, l3, some (.int a), l5, l6], .int a :: st, w, k, n) := il_e rfl (op_21 (bA_q qh_25 55 21 rfl) (bA_q qh_25 56 4 rfl)) rfl
theorem eL_law_1657 : WP (ML_law g) Q (1657, [l0, l1, l2, l3, l4, l5, l6], st, w, k, n) = WP (ML_law g) Q (1658, [l0, l1, l2, l3, l4, l5, l6], .int 3 :: st, w, k, n) := ic_3 rfl (op_6 (bA_q qh_25 57 6 rfl))
theorem eL_law_1658 : WP (ML_law g) Q (1658, [l0, l1, l2, l3, l4, l5, l6], .int b :: .int a :: st, w, k, n) = WP (ML_law g) Q (1659, [l0, l1, l2, l3, l4, l5, l6], .int (a + b) :: st, w, k, n) := iadd_e rfl (op_96 (bA_q qh_25 58 96 rfl))
theorem eL_law_1659 : WP (ML_law g) Q (1659, [l0, l1, l2, l3, l4, l5, l6], .int a :: .ref p :: st, w, k, n) = gi (rd g w p) 1 fun N f => vp_in a N ∧ WP (ML_law g) Q (1660, [l0, l1, l2, l3, l4, l5, l6], .int (f a.toNatClampNeg) :: st, w, k, n) := iaload_e rfl (op_46 (bA_q qh_25 59 46 rfl))
theorem eL_law_1660 : WP (ML_law g) Q (1660, [l0, l1, l2, l3, l4, l5, l6], .int a :: st, w, k, n) = if a = 0 then WP (ML_law g) Q (1667, [l0, l1, l2, l3, l4, l5, l6], st, w, k, n) else WP (ML_law g) Q (1663, [l0, l1, l2, l3, l4, l5, l6], st, w, k, n) := ifc_e (a = 0) rfl (op_153 (bA_q qh_25 60 153 rfl) (bA_q qh_25 61 0 rfl) (bA_q qh_25 62 7 rfl) rfl) rfl (by decide)
theorem eL_law_1663 : WP (ML_law g) Q (1663, [l0, l1, l2, l3, l4, l5, l6], st, w, k, n) = WP (ML_law g) Q (1664, [l0, l1, l2, l3, l4, l5, l6], .int 1 :: st, w, k, n) := ic_1 rfl (op_4 (bA_q qh_25 63 4 rfl))
theorem eL_law_1664 : WP (ML_law g) Q (1664, [l0, l1, l2, l3, l4, l5, l6], st, w, k, n) = WP (ML_law g) Q (1668, [l0, l1, l2, l3, l4, l5, l6], st, w, k, n) := goto_e rfl (op_167 (bA_q qh_26 0 167 rfl) (bA_q qh_26 1 0 rfl) (bA_q qh_26 2 4 rfl) rfl) (by decide)
theorem eL_law_1667 : WP (ML_law g) Q (1667, [l0, l1, l2, l3, l4, l5, l6], st, w, k, n) = WP (ML_law g) Q (1668, [l0, l1, l2, l3, l4, l5, l6], .int 0 :: st, w, k, n) := ic_0 rfl (op_3 (bA_q qh_26 3 3 rfl))
theorem eL_law_1668 {z0 : Int32} {z1 : Int32} {z2 : Int32} : WP (ML_law g) Q (1668, [l0, l1, l2, l3, l4, l5, l6], .int z2 :: .int z1 :: .int z0 :: .ref p :: st, w, k, n) = (go (rd g w p) 7 (fun _ => True) ∧ wt st ≤ 8 ∧ k + 0 ≤ 58408 ∧ n + 0 ≤ 1451408 ∧ WP (MX3_around g) (kx (fun v w' => WP (ML_law g) Q (1671, [l0, l1, l2, l3, l4, l5, l6], v.toList ++ st, w', k + 0, n + 0)) (fun E w' => Q (.inr E) w')) (0, [some (.ref p), some (.int z0), some (.int z1), some (.int z2)], [], w, 0, 0)) := csV0 (M := (ML_law g)) (mc := (fun _ _ => 0)) (ms := (fun _ _ => 0)) (As := [.int z0, .int z1, .int z2]) (rest := st) (MX3_around g) rfl rfl rfl (op_182 (bA_q qh_26 4 182 rfl) (bA_q qh_26 5 1 rfl) (bA_q qh_26 6 17 rfl) rfl) rfl rfl rfl rfl rfl rfl
theorem eL_law_1671 : WP (ML_law g) Q (1671, [l0, l1, l2, l3, l4, l5, l6], .int a :: st, w, k, n) = WP (ML_law g) Q (1673, [l0, l1, l2, l3, l4, nl l5, some (.int a)], st, w, k, n) := is_e rfl (op_54 (bA_q qh_26 7 54 rfl) (bA_q qh_26 8 6 rfl)) rfl rfl
theorem eL_law_1673 : WP (ML_law g) Q (1673, [l0, l1, l2, l3, l4, l5, l6], st, w, k, n) = WP (ML_law g) Q (2246, [l0, l1, l2, l3, l4, l5, l6], st, w, k, n) := goto_e rfl (op_167 (bA_q qh_26 9 167 rfl) (bA_q qh_26 10 2 rfl) (bA_q qh_26 11 61 rfl) rfl) (by decide)
theorem eL_law_1676 : WP (ML_law g) Q (1676, [l0, some (.ref p), l2, l3, l4, l5, l6], st, w, k, n) = WP (ML_law g) Q (1677, [l0, some (.ref p), l2, l3, l4, l5, l6], .ref p :: st, w, k, n) := alnR_e rfl (op_43 (bA_q qh_26 12 43 rfl)) rfl
theorem eL_law_1677 : WP (ML_law g) Q (1677, [some (.ref p), l1, l2, l3, l4, l5, l6], st, w, k, n) = WP (ML_law g) Q (1678, [some (.ref p), l1, l2, l3, l4, l5, l6], .ref p :: st, w, k, n) := alnR_e rfl (op_42 (bA_q qh_26 13 42 rfl)) rfl
theorem eL_law_1678 : WP (ML_law g) Q (1678, [l0, l1, l2, l3, some (.int a), l5, l6], st, w, k, n) = WP (ML_law g) Q (1680, [l0, l1, l2, l3, some (.int a), l5, l6], .int a :: st, w, k, n) := il_e rfl (op_21 (bA_q qh_26 14 21 rfl) (bA_q qh_26 15 4 rfl)) rfl
theorem eL_law_1680 : WP (ML_law g) Q (1680, [l0, l1, l2, l3, l4, l5, l6], st, w, k, n) = WP (ML_law g) Q (1681, [l0, l1, l2, l3, l4, l5, l6], .int 1 :: st, w, k, n) := ic_1 rfl (op_4 (bA_q qh_26 16 4 rfl))
theorem eL_law_1681 : WP (ML_law g) Q (1681, [l0, l1, l2, l3, l4, l5, l6], .int b :: .int a :: st, w, k, n) = WP (ML_law g) Q (1682, [l0, l1, l2, l3, l4, l5, l6], .int (a + b) :: st, w, k, n) := iadd_e rfl (op_96 (bA_q qh_26 17 96 rfl))
theorem eL_law_1682 : WP (ML_law g) Q (1682, [l0, l1, l2, l3, l4, l5, l6], .int a :: .ref p :: st, w, k, n) = gi (rd g w p) 1 fun N f => vp_in a N ∧ WP (ML_law g) Q (1683, [l0, l1, l2, l3, l4, l5, l6], .int (f a.toNatClampNeg) :: st, w, k, n) := iaload_e rfl (op_46 (bA_q qh_26 18 46 rfl))
theorem eL_law_1683 : WP (ML_law g) Q (1683, [some (.ref p), l1, l2, l3, l4, l5, l6], st, w, k, n) = WP (ML_law g) Q (1684, [some (.ref p), l1, l2, l3, l4, l5, l6], .ref p :: st, w, k, n) := alnR_e rfl (op_42 (bA_q qh_26 19 42 rfl)) rfl
theorem eL_law_1684 : WP (ML_law g) Q (1684, [l0, l1, l2, l3, some (.int a), l5, l6], st, w, k, n) = WP (ML_law g) Q (1686, [l0, l1, l2, l3, some (.int a), l5, l6], .int a :: st, w, k, n) := il_e rfl (op_21 (bA_q qh_26 20 21 rfl) (bA_q qh_26 21 4 rfl)) rfl
theorem eL_law_1686 : WP (ML_law g) Q (1686, [l0, l1, l2, l3, l4, l5, l6], st, w, k, n) = WP (ML_law g) Q (1687, [l0, l1, l2, l3, l4, l5, l6], .int 2 :: st, w, k, n) := ic_2 rfl (op_5 (bA_q qh_26 22 5 rfl))
theorem eL_law_1687 : WP (ML_law g) Q (1687, [l0, l1, l2, l3, l4, l5, l6], .int b :: .int a :: st, w, k, n) = WP (ML_law g) Q (1688, [l0, l1, l2, l3, l4, l5, l6], .int (a + b) :: st, w, k, n) := iadd_e rfl (op_96 (bA_q qh_26 23 96 rfl))
theorem eL_law_1688 : WP (ML_law g) Q (1688, [l0, l1, l2, l3, l4, l5, l6], .int a :: .ref p :: st, w, k, n) = gi (rd g w p) 1 fun N f => vp_in a N ∧ WP (ML_law g) Q (1689, [l0, l1, l2, l3, l4, l5, l6], .int (f a.toNatClampNeg) :: st, w, k, n) := iaload_e rfl (op_46 (bA_q qh_26 24 46 rfl))
theorem eL_law_1689 : WP (ML_law g) Q (1689, [some (.ref p), l1, l2, l3, l4, l5, l6], st, w, k, n) = WP (ML_law g) Q (1690, [some (.ref p), l1, l2, l3, l4, l5, l6], .ref p :: st, w, k, n) := alnR_e rfl (op_42 (bA_q qh_26 25 42 rfl)) rfl
theorem eL_law_1690 : WP (ML_law g) Q (1690, [l0, l1, l2, l3, some (.int a), l5, l6], st, w, k, n) = WP (ML_law g) Q (1692, [l0, l1, l2, l3, some (.int a), l5, l6], .int a :: st, w, k, n) := il_e rfl (op_21 (bA_q qh_26 26 21 rfl) (bA_q qh_26 27 4 rfl)) rfl
theorem eL_law_1692 : WP (ML_law g) Q (1692, [l0, l1, l2, l3, l4, l5, l6], st, w, k, n) = WP (ML_law g) Q (1693, [l0, l1, l2, l3, l4, l5, l6], .int 3 :: st, w, k, n) := ic_3 rfl (op_6 (bA_q qh_26 28 6 rfl))
theorem eL_law_1693 : WP (ML_law g) Q (1693, [l0, l1, l2, l3, l4, l5, l6], .int b :: .int a :: st, w, k, n) = WP (ML_law g) Q (1694, [l0, l1, l2, l3, l4, l5, l6], .int (a + b) :: st, w, k, n) := iadd_e rfl (op_96 (bA_q qh_26 29 96 rfl))
theorem eL_law_1694 : WP (ML_law g) Q (1694, [l0, l1, l2, l3, l4, l5, l6], .int a :: .ref p :: st, w, k, n) = gi (rd g w p) 1 fun N f => vp_in a N ∧ WP (ML_law g) Q (1695, [l0, l1, l2, l3, l4, l5, l6], .int (f a.toNatClampNeg) :: st, w, k, n) := iaload_e rfl (op_46 (bA_q qh_26 30 46 rfl))
theorem eL_law_1695 : WP (ML_law g) Q (1695, [l0, l1, l2, some (.ref p), l4, l5, l6], st, w, k, n) = WP (ML_law g) Q (1696, [l0, l1, l2, some (.ref p), l4, l5, l6], .ref p :: st, w, k, n) := alnR_e rfl (op_45 (bA_q qh_26 31 45 rfl)) rfl
theorem eL_law_1696RR {z0 : Nat} {z1 : Int32} {z2 : Int32} {z3 : Int32} {z4 : Nat} : WP (ML_law g) Q (1696, [l0, l1, l2, l3, l4, l5, l6], .ref z4 :: .int z3 :: .int z2 :: .int z1 :: .ref z0 :: st, w, k, n) = (wt st ≤ 8 ∧ k + 4 ≤ 58408 ∧ n + 24 ≤ 1451408 ∧ WP (ML_count g) (kx (fun v w' => WP (ML_law g) Q (1699, [l0, l1, l2, l3, l4, l5, l6], v.toList ++ st, w', k + 4, n + 24)) (fun E w' => Q (.inr E) w')) (0, [some (.ref z0), some (.int z1), some (.int z2), some (.int z3), some (.ref z4), none], [], w, 0, 0)) := csS0 (M := (ML_law g)) (mc := (fun _ _ => 4)) (ms := (fun _ _ => 24)) (As := [.ref z0, .int z1, .int z2, .int z3, .ref z4]) (rest := st) (ML_count g) rfl rfl rfl (op_184 (bA_q qh_26 32 184 rfl) (bA_q qh_26 33 1 rfl) (bA_q qh_26 34 18 rfl) rfl) rfl rfl rfl rfl rfl rfl rfl
theorem eL_law_1699 : WP (ML_law g) Q (1699, [l0, l1, l2, l3, l4, l5, l6], .int a :: st, w, k, n) = WP (ML_law g) Q (1701, [l0, l1, l2, l3, nl l4, some (.int a), l6], st, w, k, n) := is_e rfl (op_54 (bA_q qh_26 35 54 rfl) (bA_q qh_26 36 5 rfl)) rfl rfl
theorem eL_law_1701 : WP (ML_law g) Q (1701, [l0, l1, some (.ref p), l3, l4, l5, l6], st, w, k, n) = WP (ML_law g) Q (1702, [l0, l1, some (.ref p), l3, l4, l5, l6], .ref p :: st, w, k, n) := alnR_e rfl (op_44 (bA_q qh_26 37 44 rfl)) rfl
theorem eL_law_1702 : WP (ML_law g) Q (1702, [some (.ref p), l1, l2, l3, l4, l5, l6], st, w, k, n) = WP (ML_law g) Q (1703, [some (.ref p), l1, l2, l3, l4, l5, l6], .ref p :: st, w, k, n) := alnR_e rfl (op_42 (bA_q qh_26 38 42 rfl)) rfl
theorem eL_law_1703 : WP (ML_law g) Q (1703, [l0, l1, l2, l3, some (.int a), l5, l6], st, w, k, n) = WP (ML_law g) Q (1705, [l0, l1, l2, l3, some (.int a), l5, l6], .int a :: st, w, k, n) := il_e rfl (op_21 (bA_q qh_26 39 21 rfl) (bA_q qh_26 40 4 rfl)) rfl
theorem eL_law_1705 : WP (ML_law g) Q (1705, [l0, l1, l2, l3, l4, l5, l6], st, w, k, n) = WP (ML_law g) Q (1706, [l0, l1, l2, l3, l4, l5, l6], .int 1 :: st, w, k, n) := ic_1 rfl (op_4 (bA_q qh_26 41 4 rfl))
theorem eL_law_1706 : WP (ML_law g) Q (1706, [l0, l1, l2, l3, l4, l5, l6], .int b :: .int a :: st, w, k, n) = WP (ML_law g) Q (1707, [l0, l1, l2, l3, l4, l5, l6], .int (a + b) :: st, w, k, n) := iadd_e rfl (op_96 (bA_q qh_26 42 96 rfl))
theorem eL_law_1707 : WP (ML_law g) Q (1707, [l0, l1, l2, l3, l4, l5, l6], .int a :: .ref p :: st, w, k, n) = gi (rd g w p) 1 fun N f => vp_in a N ∧ WP (ML_law g) Q (1708, [l0, l1, l2, l3, l4, l5, l6], .int (f a.toNatClampNeg) :: st, w, k, n) := iaload_e rfl (op_46 (bA_q qh_26 43 46 rfl))
theorem eL_law_1708 : WP (ML_law g) Q (1708, [some (.ref p), l1, l2, l3, l4, l5, l6], st, w, k, n) = WP (ML_law g) Q (1709, [some (.ref p), l1, l2, l3, l4, l5, l6], .ref p :: st, w, k, n) := alnR_e rfl (op_42 (bA_q qh_26 44 42 rfl)) rfl
theorem eL_law_1709 : WP (ML_law g) Q (1709, [l0, l1, l2, l3, some (.int a), l5, l6], st, w, k, n) = WP (ML_law g) Q (1711, [l0, l1, l2, l3, some (.int a), l5, l6], .int a :: st, w, k, n) := il_e rfl (op_21 (bA_q qh_26 45 21 rfl) (bA_q qh_26 46 4 rfl)) rfl
theorem eL_law_1711 : WP (ML_law g) Q (1711, [l0, l1, l2, l3, l4, l5, l6], st, w, k, n) = WP (ML_law g) Q (1712, [l0, l1, l2, l3, l4, l5, l6], .int 2 :: st, w, k, n) := ic_2 rfl (op_5 (bA_q qh_26 47 5 rfl))
theorem eL_law_1712 : WP (ML_law g) Q (1712, [l0, l1, l2, l3, l4, l5, l6], .int b :: .int a :: st, w, k, n) = WP (ML_law g) Q (1713, [l0, l1, l2, l3, l4, l5, l6], .int (a + b) :: st, w, k, n) := iadd_e rfl (op_96 (bA_q qh_26 48 96 rfl))
theorem eL_law_1713 : WP (ML_law g) Q (1713, [l0, l1, l2, l3, l4, l5, l6], .int a :: .ref p :: st, w, k, n) = gi (rd g w p) 1 fun N f => vp_in a N ∧ WP (ML_law g) Q (1714, [l0, l1, l2, l3, l4, l5, l6], .int (f a.toNatClampNeg) :: st, w, k, n) := iaload_e rfl (op_46 (bA_q qh_26 49 46 rfl))
theorem eL_law_1714 : WP (ML_law g) Q (1714, [some (.ref p), l1, l2, l3, l4, l5, l6], st, w, k, n) = WP (ML_law g) Q (1715, [some (.ref p), l1, l2, l3, l4, l5, l6], .ref p :: st, w, k, n) := alnR_e rfl (op_42 (bA_q qh_26 50 42 rfl)) rfl
theorem eL_law_1715 : WP (ML_law g) Q (1715, [l0, l1, l2, l3, some (.int a), l5, l6], st, w, k, n) = WP (ML_law g) Q (1717, [l0, l1, l2, l3, some (.int a), l5, l6], .int a :: st, w, k, n) := il_e rfl (op_21 (bA_q qh_26 51 21 rfl) (bA_q qh_26 52 4 rfl)) rfl
theorem eL_law_1717 : WP (ML_law g) Q (1717, [l0, l1, l2, l3, l4, l5, l6], st, w, k, n) = WP (ML_law g) Q (1718, [l0, l1, l2, l3, l4, l5, l6], .int 3 :: st, w, k, n) := ic_3 rfl (op_6 (bA_q qh_26 53 6 rfl))
theorem eL_law_1718 : WP (ML_law g) Q (1718, [l0, l1, l2, l3, l4, l5, l6], .int b :: .int a :: st, w, k, n) = WP (ML_law g) Q (1719, [l0, l1, l2, l3, l4, l5, l6], .int (a + b) :: st, w, k, n) := iadd_e rfl (op_96 (bA_q qh_26 54 96 rfl))
theorem eL_law_1719 : WP (ML_law g) Q (1719, [l0, l1, l2, l3, l4, l5, l6], .int a :: .ref p :: st, w, k, n) = gi (rd g w p) 1 fun N f => vp_in a N ∧ WP (ML_law g) Q (1720, [l0, l1, l2, l3, l4, l5, l6], .int (f a.toNatClampNeg) :: st, w, k, n) := iaload_e rfl (op_46 (bA_q qh_26 55 46 rfl))
theorem eL_law_1720 {z0 : Int32} {z1 : Int32} {z2 : Int32} : WP (ML_law g) Q (1720, [l0, l1, l2, l3, l4, l5, l6], .int z2 :: .int z1 :: .int z0 :: .ref p :: st, w, k, n) = (go (rd g w p) 7 (fun _ => True) ∧ wt st ≤ 8 ∧ k + 0 ≤ 58408 ∧ n + 0 ≤ 1451408 ∧ WP (MX3_count g) (kx (fun v w' => WP (ML_law g) Q (1723, [l0, l1, l2, l3, l4, l5, l6], v.toList ++ st, w', k + 0, n + 0)) (fun E w' => Q (.inr E) w')) (0, [some (.ref p), some (.int z0), some (.int z1), some (.int z2), none, none], [], w, 0, 0)) := csV0 (M := (ML_law g)) (mc := (fun _ _ => 0)) (ms := (fun _ _ => 0)) (As := [.int z0, .int z1, .int z2]) (rest := st) (MX3_count g) rfl rfl rfl (op_182 (bA_q qh_26 56 182 rfl) (bA_q qh_26 57 1 rfl) (bA_q qh_26 58 20 rfl) rfl) rfl rfl rfl rfl rfl rfl
theorem eL_law_1723 : WP (ML_law g) Q (1723, [l0, l1, l2, l3, l4, l5, l6], .int a :: st, w, k, n) = WP (ML_law g) Q (1725, [l0, l1, l2, l3, l4, nl l5, some (.int a)], st, w, k, n) := is_e rfl (op_54 (bA_q qh_26 59 54 rfl) (bA_q qh_26 60 6 rfl)) rfl rfl
theorem eL_law_1725 : WP (ML_law g) Q (1725, [l0, l1, l2, l3, l4, l5, l6], st, w, k, n) = WP (ML_law g) Q (2246, [l0, l1, l2, l3, l4, l5, l6], st, w, k, n) := goto_e rfl (op_167 (bA_q qh_26 61 167 rfl) (bA_q qh_26 62 2 rfl) (bA_q qh_26 63 9 rfl) rfl) (by decide)
theorem eL_law_1728 : WP (ML_law g) Q (1728, [l0, some (.ref p), l2, l3, l4, l5, l6], st, w, k, n) = WP (ML_law g) Q (1729, [l0, some (.ref p), l2, l3, l4, l5, l6], .ref p :: st, w, k, n) := alnR_e rfl (op_43 (bA_q qh_27 0 43 rfl)) rfl
theorem eL_law_1729 : WP (ML_law g) Q (1729, [some (.ref p), l1, l2, l3, l4, l5, l6], st, w, k, n) = WP (ML_law g) Q (1730, [some (.ref p), l1, l2, l3, l4, l5, l6], .ref p :: st, w, k, n) := alnR_e rfl (op_42 (bA_q qh_27 1 42 rfl)) rfl
theorem eL_law_1730 : WP (ML_law g) Q (1730, [l0, l1, l2, l3, some (.int a), l5, l6], st, w, k, n) = WP (ML_law g) Q (1732, [l0, l1, l2, l3, some (.int a), l5, l6], .int a :: st, w, k, n) := il_e rfl (op_21 (bA_q qh_27 2 21 rfl) (bA_q qh_27 3 4 rfl)) rfl
theorem eL_law_1732 : WP (ML_law g) Q (1732, [l0, l1, l2, l3, l4, l5, l6], st, w, k, n) = WP (ML_law g) Q (1733, [l0, l1, l2, l3, l4, l5, l6], .int 1 :: st, w, k, n) := ic_1 rfl (op_4 (bA_q qh_27 4 4 rfl))
theorem eL_law_1733 : WP (ML_law g) Q (1733, [l0, l1, l2, l3, l4, l5, l6], .int b :: .int a :: st, w, k, n) = WP (ML_law g) Q (1734, [l0, l1, l2, l3, l4, l5, l6], .int (a + b) :: st, w, k, n) := iadd_e rfl (op_96 (bA_q qh_27 5 96 rfl))
theorem eL_law_1734 : WP (ML_law g) Q (1734, [l0, l1, l2, l3, l4, l5, l6], .int a :: .ref p :: st, w, k, n) = gi (rd g w p) 1 fun N f => vp_in a N ∧ WP (ML_law g) Q (1735, [l0, l1, l2, l3, l4, l5, l6], .int (f a.toNatClampNeg) :: st, w, k, n) := iaload_e rfl (op_46 (bA_q qh_27 6 46 rfl))
theorem eL_law_1735 : WP (ML_law g) Q (1735, [some (.ref p), l1, l2, l3, l4, l5, l6], st, w, k, n) = WP (ML_law g) Q (1736, [some (.ref p), l1, l2, l3, l4, l5, l6], .ref p :: st, w, k, n) := alnR_e rfl (op_42 (bA_q qh_27 7 42 rfl)) rfl
theorem eL_law_1736 : WP (ML_law g) Q (1736, [l0, l1, l2, l3, some (.int a), l5, l6], st, w, k, n) = WP (ML_law g) Q (1738, [l0, l1, l2, l3, some (.int a), l5, l6], .int a :: st, w, k, n) := il_e rfl (op_21 (bA_q qh_27 8 21 rfl) (bA_q qh_27 9 4 rfl)) rfl
theorem eL_law_1738 : WP (ML_law g) Q (1738, [l0, l1, l2, l3, l4, l5, l6], st, w, k, n) = WP (ML_law g) Q (1739, [l0, l1, l2, l3, l4, l5, l6], .int 2 :: st, w, k, n) := ic_2 rfl (op_5 (bA_q qh_27 10 5 rfl))
theorem eL_law_1739 : WP (ML_law g) Q (1739, [l0, l1, l2, l3, l4, l5, l6], .int b :: .int a :: st, w, k, n) = WP (ML_law g) Q (1740, [l0, l1, l2, l3, l4, l5, l6], .int (a + b) :: st, w, k, n) := iadd_e rfl (op_96 (bA_q qh_27 11 96 rfl))
theorem eL_law_1740 : WP (ML_law g) Q (1740, [l0, l1, l2, l3, l4, l5, l6], .int a :: .ref p :: st, w, k, n) = gi (rd g w p) 1 fun N f => vp_in a N ∧ WP (ML_law g) Q (1741, [l0, l1, l2, l3, l4, l5, l6], .int (f a.toNatClampNeg) :: st, w, k, n) := iaload_e rfl (op_46 (bA_q qh_27 12 46 rfl))
theorem eL_law_1741 : WP (ML_law g) Q (1741, [l0, l1, l2, some (.ref p), l4, l5, l6], st, w, k, n) = WP (ML_law g) Q (1742, [l0, l1, l2, some (.ref p), l4, l5, l6], .ref p :: st, w, k, n) := alnR_e rfl (op_45 (bA_q qh_27 13 45 rfl)) rfl
theorem eL_law_1742RR {z0 : Nat} {z1 : Int32} {z2 : Int32} {z3 : Nat} : WP (ML_law g) Q (1742, [l0, l1, l2, l3, l4, l5, l6], .ref z3 :: .int z2 :: .int z1 :: .ref z0 :: st, w, k, n) = (wt st ≤ 8 ∧ k + 2 ≤ 58408 ∧ n + 12 ≤ 1451408 ∧ WP (ML_who g) (kx (fun v w' => WP (ML_law g) Q (1745, [l0, l1, l2, l3, l4, l5, l6], v.toList ++ st, w', k + 2, n + 12)) (fun E w' => Q (.inr E) w')) (0, [some (.ref z0), some (.int z1), some (.int z2), some (.ref z3), none], [], w, 0, 0)) := csS0 (M := (ML_law g)) (mc := (fun _ _ => 2)) (ms := (fun _ _ => 12)) (As := [.ref z0, .int z1, .int z2, .ref z3]) (rest := st) (ML_who g) rfl rfl rfl (op_184 (bA_q qh_27 14 184 rfl) (bA_q qh_27 15 1 rfl) (bA_q qh_27 16 21 rfl) rfl) rfl rfl rfl rfl rfl rfl rfl
theorem eL_law_1745 : WP (ML_law g) Q (1745, [l0, l1, l2, l3, l4, l5, l6], .int a :: st, w, k, n) = WP (ML_law g) Q (1747, [l0, l1, l2, l3, nl l4, some (.int a), l6], st, w, k, n) := is_e rfl (op_54 (bA_q qh_27 17 54 rfl) (bA_q qh_27 18 5 rfl)) rfl rfl
theorem eL_law_1747 : WP (ML_law g) Q (1747, [l0, l1, some (.ref p), l3, l4, l5, l6], st, w, k, n) = WP (ML_law g) Q (1748, [l0, l1, some (.ref p), l3, l4, l5, l6], .ref p :: st, w, k, n) := alnR_e rfl (op_44 (bA_q qh_27 19 44 rfl)) rfl
theorem eL_law_1748 : WP (ML_law g) Q (1748, [some (.ref p), l1, l2, l3, l4, l5, l6], st, w, k, n) = WP (ML_law g) Q (1749, [some (.ref p), l1, l2, l3, l4, l5, l6], .ref p :: st, w, k, n) := alnR_e rfl (op_42 (bA_q qh_27 20 42 rfl)) rfl
theorem eL_law_1749 : WP (ML_law g) Q (1749, [l0, l1, l2, l3, some (.int a), l5, l6], st, w, k, n) = WP (ML_law g) Q (1751, [l0, l1, l2, l3, some (.int a), l5, l6], .int a :: st, w, k, n) := il_e rfl (op_21 (bA_q qh_27 21 21 rfl) (bA_q qh_27 22 4 rfl)) rfl
theorem eL_law_1751 : WP (ML_law g) Q (1751, [l0, l1, l2, l3, l4, l5, l6], st, w, k, n) = WP (ML_law g) Q (1752, [l0, l1, l2, l3, l4, l5, l6], .int 1 :: st, w, k, n) := ic_1 rfl (op_4 (bA_q qh_27 23 4 rfl))
theorem eL_law_1752 : WP (ML_law g) Q (1752, [l0, l1, l2, l3, l4, l5, l6], .int b :: .int a :: st, w, k, n) = WP (ML_law g) Q (1753, [l0, l1, l2, l3, l4, l5, l6], .int (a + b) :: st, w, k, n) := iadd_e rfl (op_96 (bA_q qh_27 24 96 rfl))
theorem eL_law_1753 : WP (ML_law g) Q (1753, [l0, l1, l2, l3, l4, l5, l6], .int a :: .ref p :: st, w, k, n) = gi (rd g w p) 1 fun N f => vp_in a N ∧ WP (ML_law g) Q (1754, [l0, l1, l2, l3, l4, l5, l6], .int (f a.toNatClampNeg) :: st, w, k, n) := iaload_e rfl (op_46 (bA_q qh_27 25 46 rfl))
theorem eL_law_1754 : WP (ML_law g) Q (1754, [some (.ref p), l1, l2, l3, l4, l5, l6], st, w, k, n) = WP (ML_law g) Q (1755, [some (.ref p), l1, l2, l3, l4, l5, l6], .ref p :: st, w, k, n) := alnR_e rfl (op_42 (bA_q qh_27 26 42 rfl)) rfl
theorem eL_law_1755 : WP (ML_law g) Q (1755, [l0, l1, l2, l3, some (.int a), l5, l6], st, w, k, n) = WP (ML_law g) Q (1757, [l0, l1, l2, l3, some (.int a), l5, l6], .int a :: st, w, k, n) := il_e rfl (op_21 (bA_q qh_27 27 21 rfl) (bA_q qh_27 28 4 rfl)) rfl
theorem eL_law_1757 : WP (ML_law g) Q (1757, [l0, l1, l2, l3, l4, l5, l6], st, w, k, n) = WP (ML_law g) Q (1758, [l0, l1, l2, l3, l4, l5, l6], .int 2 :: st, w, k, n) := ic_2 rfl (op_5 (bA_q qh_27 29 5 rfl))
theorem eL_law_1758 : WP (ML_law g) Q (1758, [l0, l1, l2, l3, l4, l5, l6], .int b :: .int a :: st, w, k, n) = WP (ML_law g) Q (1759, [l0, l1, l2, l3, l4, l5, l6], .int (a + b) :: st, w, k, n) := iadd_e rfl (op_96 (bA_q qh_27 30 96 rfl))
theorem eL_law_1759 : WP (ML_law g) Q (1759, [l0, l1, l2, l3, l4, l5, l6], .int a :: .ref p :: st, w, k, n) = gi (rd g w p) 1 fun N f => vp_in a N ∧ WP (ML_law g) Q (1760, [l0, l1, l2, l3, l4, l5, l6], .int (f a.toNatClampNeg) :: st, w, k, n) := iaload_e rfl (op_46 (bA_q qh_27 31 46 rfl))
theorem eL_law_1760 {z0 : Int32} {z1 : Int32} : WP (ML_law g) Q (1760, [l0, l1, l2, l3, l4, l5, l6], .int z1 :: .int z0 :: .ref p :: st, w, k, n) = (go (rd g w p) 7 (fun _ => True) ∧ wt st ≤ 8 ∧ k + 0 ≤ 58408 ∧ n + 0 ≤ 1451408 ∧ WP (MX3_who g) (kx (fun v w' => WP (ML_law g) Q (1763, [l0, l1, l2, l3, l4, l5, l6], v.toList ++ st, w', k + 0, n + 0)) (fun E w' => Q (.inr E) w')) (0, [some (.ref p), some (.int z0), some (.int z1)], [], w, 0, 0)) := csV0 (M := (ML_law g)) (mc := (fun _ _ => 0)) (ms := (fun _ _ => 0)) (As := [.int z0, .int z1]) (rest := st) (MX3_who g) rfl rfl rfl (op_182 (bA_q qh_27 32 182 rfl) (bA_q qh_27 33 1 rfl) (bA_q qh_27 34 23 rfl) rfl) rfl rfl rfl rfl rfl rfl
theorem eL_law_1763 : WP (ML_law g) Q (1763, [l0, l1, l2, l3, l4, l5, l6], .int a :: st, w, k, n) = WP (ML_law g) Q (1765, [l0, l1, l2, l3, l4, nl l5, some (.int a)], st, w, k, n) := is_e rfl (op_54 (bA_q qh_27 35 54 rfl) (bA_q qh_27 36 6 rfl)) rfl rfl
theorem eL_law_1765 : WP (ML_law g) Q (1765, [l0, l1, l2, l3, l4, l5, l6], st, w, k, n) = WP (ML_law g) Q (2246, [l0, l1, l2, l3, l4, l5, l6], st, w, k, n) := goto_e rfl (op_167 (bA_q qh_27 37 167 rfl) (bA_q qh_27 38 1 rfl) (bA_q qh_27 39 225 rfl) rfl) (by decide)
theorem eL_law_1768 : WP (ML_law g) Q (1768, [l0, some (.ref p), l2, l3, l4, l5, l6], st, w, k, n) = WP (ML_law g) Q (1769, [l0, some (.ref p), l2, l3, l4, l5, l6], .ref p :: st, w, k, n) := alnR_e rfl (op_43 (bA_q qh_27 40 43 rfl)) rfl
theorem eL_law_1768N : WP (ML_law g) Q (1768, [l0, some .null, l2, l3, l4, l5, l6], st, w, k, n) = WP (ML_law g) Q (1769, [l0, some .null, l2, l3, l4, l5, l6], .null :: st, w, k, n) := alnN_e rfl (op_43 (bA_q qh_27 40 43 rfl)) rfl
theorem eL_law_1769 : WP (ML_law g) Q (1769, [some (.ref p), l1, l2, l3, l4, l5, l6], st, w, k, n) = WP (ML_law g) Q (1770, [some (.ref p), l1, l2, l3, l4, l5, l6], .ref p :: st, w, k, n) := alnR_e rfl (op_42 (bA_q qh_27 41 42 rfl)) rfl
theorem eL_law_1769N : WP (ML_law g) Q (1769, [some .null, l1, l2, l3, l4, l5, l6], st, w, k, n) = WP (ML_law g) Q (1770, [some .null, l1, l2, l3, l4, l5, l6], .null :: st, w, k, n) := alnN_e rfl (op_42 (bA_q qh_27 41 42 rfl)) rfl
theorem eL_law_1770 : WP (ML_law g) Q (1770, [l0, l1, l2, l3, some (.int a), l5, l6], st, w, k, n) = WP (ML_law g) Q (1772, [l0, l1, l2, l3, some (.int a), l5, l6], .int a :: st, w, k, n) := il_e rfl (op_21 (bA_q qh_27 42 21 rfl) (bA_q qh_27 43 4 rfl)) rfl
theorem eL_law_1772 : WP (ML_law g) Q (1772, [l0, l1, l2, l3, l4, l5, l6], st, w, k, n) = WP (ML_law g) Q (1773, [l0, l1, l2, l3, l4, l5, l6], .int 1 :: st, w, k, n) := ic_1 rfl (op_4 (bA_q qh_27 44 4 rfl))
theorem eL_law_1773 : WP (ML_law g) Q (1773, [l0, l1, l2, l3, l4, l5, l6], .int b :: .int a :: st, w, k, n) = WP (ML_law g) Q (1774, [l0, l1, l2, l3, l4, l5, l6], .int (a + b) :: st, w, k, n) := iadd_e rfl (op_96 (bA_q qh_27 45 96 rfl))
theorem eL_law_1774 : WP (ML_law g) Q (1774, [l0, l1, l2, l3, l4, l5, l6], .int a :: .ref p :: st, w, k, n) = gi (rd g w p) 1 fun N f => vp_in a N ∧ WP (ML_law g) Q (1775, [l0, l1, l2, l3, l4, l5, l6], .int (f a.toNatClampNeg) :: st, w, k, n) := iaload_e rfl (op_46 (bA_q qh_27 46 46 rfl))
theorem eL_law_1775 : WP (ML_law g) Q (1775, [l0, l1, l2, some (.ref p), l4, l5, l6], st, w, k, n) = WP (ML_law g) Q (1776, [l0, l1, l2, some (.ref p), l4, l5, l6], .ref p :: st, w, k, n) := alnR_e rfl (op_45 (bA_q qh_27 47 45 rfl)) rfl
theorem eL_law_1775N : WP (ML_law g) Q (1775, [l0, l1, l2, some .null, l4, l5, l6], st, w, k, n) = WP (ML_law g) Q (1776, [l0, l1, l2, some .null, l4, l5, l6], .null :: st, w, k, n) := alnN_e rfl (op_45 (bA_q qh_27 47 45 rfl)) rfl
theorem eL_law_1776RR {z0 : Nat} {z1 : Int32} {z2 : Nat} : WP (ML_law g) Q (1776, [l0, l1, l2, l3, l4, l5, l6], .ref z2 :: .int z1 :: .ref z0 :: st, w, k, n) = (wt st ≤ 8 ∧ k + 1 ≤ 58408 ∧ n + 6 ≤ 1451408 ∧ WP (ML_which g) (kx (fun v w' => WP (ML_law g) Q (1779, [l0, l1, l2, l3, l4, l5, l6], v.toList ++ st, w', k + 1, n + 6)) (fun E w' => Q (.inr E) w')) (0, [some (.ref z0), some (.int z1), some (.ref z2), none], [], w, 0, 0)) := csS0 (M := (ML_law g)) (mc := (fun _ _ => 1)) (ms := (fun _ _ => 6)) (As := [.ref z0, .int z1, .ref z2]) (rest := st) (ML_which g) rfl rfl rfl (op_184 (bA_q qh_27 48 184 rfl) (bA_q qh_27 49 1 rfl) (bA_q qh_27 50 24 rfl) rfl) rfl rfl rfl rfl rfl rfl rfl
theorem eL_law_1776NR {z1 : Int32} {z2 : Nat} : WP (ML_law g) Q (1776, [l0, l1, l2, l3, l4, l5, l6], .ref z2 :: .int z1 :: .null :: st, w, k, n) = (wt st ≤ 8 ∧ k + 1 ≤ 58408 ∧ n + 6 ≤ 1451408 ∧ WP (ML_which g) (kx (fun v w' => WP (ML_law g) Q (1779, [l0, l1, l2, l3, l4, l5, l6], v.toList ++ st, w', k + 1, n + 6)) (fun E w' => Q (.inr E) w')) (0, [some .null, some (.int z1), some (.ref z2), none], [], w, 0, 0)) := csS0 (M := (ML_law g)) (mc := (fun _ _ => 1)) (ms := (fun _ _ => 6)) (As := [.null, .int z1, .ref z2]) (rest := st) (ML_which g) rfl rfl rfl (op_184 (bA_q qh_27 48 184 rfl) (bA_q qh_27 49 1 rfl) (bA_q qh_27 50 24 rfl) rfl) rfl rfl rfl rfl rfl rfl rfl
theorem eL_law_1776RN {z0 : Nat} {z1 : Int32} : WP (ML_law g) Q (1776, [l0, l1, l2, l3, l4, l5, l6], .null :: .int z1 :: .ref z0 :: st, w, k, n) = (wt st ≤ 8 ∧ k + 1 ≤ 58408 ∧ n + 6 ≤ 1451408 ∧ WP (ML_which g) (kx (fun v w' => WP (ML_law g) Q (1779, [l0, l1, l2, l3, l4, l5, l6], v.toList ++ st, w', k + 1, n + 6)) (fun E w' => Q (.inr E) w')) (0, [some (.ref z0), some (.int z1), some .null, none], [], w, 0, 0)) := csS0 (M := (ML_law g)) (mc := (fun _ _ => 1)) (ms := (fun _ _ => 6)) (As := [.ref z0, .int z1, .null]) (rest := st) (ML_which g) rfl rfl rfl (op_184 (bA_q qh_27 48 184 rfl) (bA_q qh_27 49 1 rfl) (bA_q qh_27 50 24 rfl) rfl) rfl rfl rfl rfl rfl rfl rfl
theorem eL_law_1776NN {z1 : Int32} : WP (ML_law g) Q (1776, [l0, l1, l2, l3, l4, l5, l6], .null :: .int z1 :: .null :: st, w, k, n) = (wt st ≤ 8 ∧ k + 1 ≤ 58408 ∧ n + 6 ≤ 1451408 ∧ WP (ML_which g) (kx (fun v w' => WP (ML_law g) Q (1779, [l0, l1, l2, l3, l4, l5, l6], v.toList ++ st, w', k + 1, n + 6)) (fun E w' => Q (.inr E) w')) (0, [some .null, some (.int z1), some .null, none], [], w, 0, 0)) := csS0 (M := (ML_law g)) (mc := (fun _ _ => 1)) (ms := (fun _ _ => 6)) (As := [.null, .int z1, .null]) (rest := st) (ML_which g) rfl rfl rfl (op_184 (bA_q qh_27 48 184 rfl) (bA_q qh_27 49 1 rfl) (bA_q qh_27 50 24 rfl) rfl) rfl rfl rfl rfl rfl rfl rfl
theorem eL_law_1779 : WP (ML_law g) Q (1779, [l0, l1, l2, l3, l4, l5, l6], .int a :: st, w, k, n) = WP (ML_law g) Q (1781, [l0, l1, l2, l3, nl l4, some (.int a), l6], st, w, k, n) := is_e rfl (op_54 (bA_q qh_27 51 54 rfl) (bA_q qh_27 52 5 rfl)) rfl rfl
theorem eL_law_1781 : WP (ML_law g) Q (1781, [l0, l1, some (.ref p), l3, l4, l5, l6], st, w, k, n) = WP (ML_law g) Q (1782, [l0, l1, some (.ref p), l3, l4, l5, l6], .ref p :: st, w, k, n) := alnR_e rfl (op_44 (bA_q qh_27 53 44 rfl)) rfl
theorem eL_law_1781N : WP (ML_law g) Q (1781, [l0, l1, some .null, l3, l4, l5, l6], st, w, k, n) = WP (ML_law g) Q (1782, [l0, l1, some .null, l3, l4, l5, l6], .null :: st, w, k, n) := alnN_e rfl (op_44 (bA_q qh_27 53 44 rfl)) rfl
theorem eL_law_1782 : WP (ML_law g) Q (1782, [some (.ref p), l1, l2, l3, l4, l5, l6], st, w, k, n) = WP (ML_law g) Q (1783, [some (.ref p), l1, l2, l3, l4, l5, l6], .ref p :: st, w, k, n) := alnR_e rfl (op_42 (bA_q qh_27 54 42 rfl)) rfl
theorem eL_law_1782N : WP (ML_law g) Q (1782, [some .null, l1, l2, l3, l4, l5, l6], st, w, k, n) = WP (ML_law g) Q (1783, [some .null, l1, l2, l3, l4, l5, l6], .null :: st, w, k, n) := alnN_e rfl (op_42 (bA_q qh_27 54 42 rfl)) rfl
theorem eL_law_1783 : WP (ML_law g) Q (1783, [l0, l1, l2, l3, some (.int a), l5, l6], st, w, k, n) = WP (ML_law g) Q (1785, [l0, l1, l2, l3, some (.int a), l5, l6], .int a :: st, w, k, n) := il_e rfl (op_21 (bA_q qh_27 55 21 rfl) (bA_q qh_27 56 4 rfl)) rfl
theorem eL_law_1785 : WP (ML_law g) Q (1785, [l0, l1, l2, l3, l4, l5, l6], st, w, k, n) = WP (ML_law g) Q (1786, [l0, l1, l2, l3, l4, l5, l6], .int 1 :: st, w, k, n) := ic_1 rfl (op_4 (bA_q qh_27 57 4 rfl))
theorem eL_law_1786 : WP (ML_law g) Q (1786, [l0, l1, l2, l3, l4, l5, l6], .int b :: .int a :: st, w, k, n) = WP (ML_law g) Q (1787, [l0, l1, l2, l3, l4, l5, l6], .int (a + b) :: st, w, k, n) := iadd_e rfl (op_96 (bA_q qh_27 58 96 rfl))
theorem eL_law_1787 : WP (ML_law g) Q (1787, [l0, l1, l2, l3, l4, l5, l6], .int a :: .ref p :: st, w, k, n) = gi (rd g w p) 1 fun N f => vp_in a N ∧ WP (ML_law g) Q (1788, [l0, l1, l2, l3, l4, l5, l6], .int (f a.toNatClampNeg) :: st, w, k, n) := iaload_e rfl (op_46 (bA_q qh_27 59 46 rfl))
theorem eL_law_1788 {z0 : Int32} : WP (ML_law g) Q (1788, [l0, l1, l2, l3, l4, l5, l6], .int z0 :: .ref p :: st, w, k, n) = (go (rd g w p) 7 (fun _ => True) ∧ wt st ≤ 8 ∧ k + 0 ≤ 58408 ∧ n + 0 ≤ 1451408 ∧ WP (MX3_which g) (kx (fun v w' => WP (ML_law g) Q (1791, [l0, l1, l2, l3, l4, l5, l6], v.toList ++ st, w', k + 0, n + 0)) (fun E w' => Q (.inr E) w')) (0, [some (.ref p), some (.int z0)], [], w, 0, 0)) := csV0 (M := (ML_law g)) (mc := (fun _ _ => 0)) (ms := (fun _ _ => 0)) (As := [.int z0]) (rest := st) (MX3_which g) rfl rfl rfl (op_182 (bA_q qh_27 60 182 rfl) (bA_q qh_27 61 1 rfl) (bA_q qh_27 62 26 rfl) rfl) rfl rfl rfl rfl rfl rfl
theorem eL_law_1791 : WP (ML_law g) Q (1791, [l0, l1, l2, l3, l4, l5, l6], .int a :: st, w, k, n) = WP (ML_law g) Q (1793, [l0, l1, l2, l3, l4, nl l5, some (.int a)], st, w, k, n) := is_e rfl (op_54 (bA_q qh_27 63 54 rfl) (bA_q qh_27 64 6 rfl)) rfl rfl
theorem eL_law_1793 : WP (ML_law g) Q (1793, [l0, l1, some (.ref p), l3, l4, l5, l6], st, w, k, n) = WP (ML_law g) Q (1794, [l0, l1, some (.ref p), l3, l4, l5, l6], .ref p :: st, w, k, n) := alnR_e rfl (op_44 (bA_q qh_28 1 44 rfl)) rfl
theorem eL_law_1793N : WP (ML_law g) Q (1793, [l0, l1, some .null, l3, l4, l5, l6], st, w, k, n) = WP (ML_law g) Q (1794, [l0, l1, some .null, l3, l4, l5, l6], .null :: st, w, k, n) := alnN_e rfl (op_44 (bA_q qh_28 1 44 rfl)) rfl
theorem eL_law_1794  : WP (ML_law g) Q (1794, [l0, l1, l2, l3, l4, l5, l6], .ref p :: st, w, k, n) = (go (rd g w p) 7 (fun _ => True) ∧ wt st ≤ 8 ∧ k + 0 ≤ 58408 ∧ n + 0 ≤ 1451408 ∧ WP (MX3_thrown g) (kx (fun v w' => WP (ML_law g) Q (1797, [l0, l1, l2, l3, l4, l5, l6], v.toList ++ st, w', k + 0, n + 0)) (fun E w' => Q (.inr E) w')) (0, [some (.ref p)], [], w, 0, 0)) := csV0 (M := (ML_law g)) (mc := (fun _ _ => 0)) (ms := (fun _ _ => 0)) (As := []) (rest := st) (MX3_thrown g) rfl rfl rfl (op_182 (bA_q qh_28 2 182 rfl) (bA_q qh_28 3 1 rfl) (bA_q qh_28 4 27 rfl) rfl) rfl rfl rfl rfl rfl rfl
theorem eL_law_1797 : WP (ML_law g) Q (1797, [l0, l1, l2, l3, l4, some (.int a), l6], st, w, k, n) = WP (ML_law g) Q (1799, [l0, l1, l2, l3, l4, some (.int a), l6], .int a :: st, w, k, n) := il_e rfl (op_21 (bA_q qh_28 5 21 rfl) (bA_q qh_28 6 5 rfl)) rfl
theorem eL_law_1799 : WP (ML_law g) Q (1799, [l0, l1, l2, l3, l4, l5, l6], .int b :: .int a :: st, w, k, n) = if a = b then WP (ML_law g) Q (1804, [l0, l1, l2, l3, l4, l5, l6], st, w, k, n) else WP (ML_law g) Q (1802, [l0, l1, l2, l3, l4, l5, l6], st, w, k, n) := icm_e (a = b) rfl dL_law_1799 rfl (by decide)
theorem eL_law_1802 : WP (ML_law g) Q (1802, [l0, l1, l2, l3, l4, l5, l6], st, w, k, n) = WP (ML_law g) Q (1803, [l0, l1, l2, l3, l4, l5, l6], .int 0 :: st, w, k, n) := ic_0 rfl (op_3 (bA_q qh_28 10 3 rfl))
set_option maxRecDepth 20000 in
theorem eL_law_1803 : WP (ML_law g) Q (1803, [l0, l1, l2, l3, l4, l5, l6], [.int a], w, k, n) = (narrow (.boolean) (.int a) = .int a ∧ k ≤ 58408 ∧ n ≤ 1451408 ∧ Q (.inl (some (.int a))) w) := iret_e rfl dL_law_1803 rfl
theorem eL_law_1804 : WP (ML_law g) Q (1804, [l0, l1, l2, l3, l4, some (.int a), l6], st, w, k, n) = WP (ML_law g) Q (1806, [l0, l1, l2, l3, l4, some (.int a), l6], .int a :: st, w, k, n) := il_e rfl (op_21 (bA_q qh_28 12 21 rfl) (bA_q qh_28 13 5 rfl)) rfl
theorem eL_law_1806 : WP (ML_law g) Q (1806, [l0, l1, l2, l3, l4, l5, l6], .int a :: st, w, k, n) = if a = 0 then WP (ML_law g) Q (1809, [l0, l1, l2, l3, l4, l5, l6], st, w, k, n) else WP (ML_law g) Q (1822, [l0, l1, l2, l3, l4, l5, l6], st, w, k, n) := ifcn_e (a = 0) rfl (op_154 (bA_q qh_28 14 154 rfl) (bA_q qh_28 15 0 rfl) (bA_q qh_28 16 16 rfl) rfl) rfl (by decide)
theorem eL_law_1809 : WP (ML_law g) Q (1809, [l0, l1, l2, some (.ref p), l4, l5, l6], st, w, k, n) = WP (ML_law g) Q (1810, [l0, l1, l2, some (.ref p), l4, l5, l6], .ref p :: st, w, k, n) := alnR_e rfl (op_45 (bA_q qh_28 17 45 rfl)) rfl
theorem eL_law_1809N : WP (ML_law g) Q (1809, [l0, l1, l2, some .null, l4, l5, l6], st, w, k, n) = WP (ML_law g) Q (1810, [l0, l1, l2, some .null, l4, l5, l6], .null :: st, w, k, n) := alnN_e rfl (op_45 (bA_q qh_28 17 45 rfl)) rfl
theorem eL_law_1810 : WP (ML_law g) Q (1810, [l0, l1, l2, l3, l4, l5, l6], .ref p :: st, w, k, n) = go (rd g w p) 6 fun fs => ∃ v, fs[0]? = some v ∧ WP (ML_law g) Q (1813, [l0, l1, l2, l3, l4, l5, l6], v :: st, w, k, n) := get_e rfl dL_law_1810 rfl
theorem eL_law_1813 : WP (ML_law g) Q (1813, [l0, l1, l2, l3, l4, l5, some (.int a)], st, w, k, n) = WP (ML_law g) Q (1815, [l0, l1, l2, l3, l4, l5, some (.int a)], .int a :: st, w, k, n) := il_e rfl (op_21 (bA_q qh_28 21 21 rfl) (bA_q qh_28 22 6 rfl)) rfl
theorem eL_law_1815 : WP (ML_law g) Q (1815, [l0, l1, l2, l3, l4, l5, l6], .int a :: st, w, k, n) = WP (ML_law g) Q (1816, [l0, l1, l2, l3, l4, l5, l6], .long a.toInt64 :: st, w, k, n) := i2l_e rfl dL_law_1815
theorem eL_law_1816 : WP (ML_law g) Q (1816, [l0, l1, l2, l3, l4, l5, l6], .long y :: .long x :: st, w, k, n) = WP (ML_law g) Q (1817, [l0, l1, l2, l3, l4, l5, l6], .int (lg_cmp x y) :: st, w, k, n) := lcmp_e rfl dL_law_1816
theorem eL_law_1817 : WP (ML_law g) Q (1817, [l0, l1, l2, l3, l4, l5, l6], .int a :: st, w, k, n) = if a = 0 then WP (ML_law g) Q (1822, [l0, l1, l2, l3, l4, l5, l6], st, w, k, n) else WP (ML_law g) Q (1820, [l0, l1, l2, l3, l4, l5, l6], st, w, k, n) := ifc_e (a = 0) rfl (op_153 (bA_q qh_28 25 153 rfl) (bA_q qh_28 26 0 rfl) (bA_q qh_28 27 5 rfl) rfl) rfl (by decide)
theorem eL_law_1820 : WP (ML_law g) Q (1820, [l0, l1, l2, l3, l4, l5, l6], st, w, k, n) = WP (ML_law g) Q (1821, [l0, l1, l2, l3, l4, l5, l6], .int 0 :: st, w, k, n) := ic_0 rfl (op_3 (bA_q qh_28 28 3 rfl))
set_option maxRecDepth 20000 in
theorem eL_law_1821 : WP (ML_law g) Q (1821, [l0, l1, l2, l3, l4, l5, l6], [.int a], w, k, n) = (narrow (.boolean) (.int a) = .int a ∧ k ≤ 58408 ∧ n ≤ 1451408 ∧ Q (.inl (some (.int a))) w) := iret_e rfl dL_law_1821 rfl
theorem eL_law_1822 : WP (ML_law g) Q (1822, [l0, l1, l2, l3, l4, l5, l6], st, w, k, n) = WP (ML_law g) Q (2246, [l0, l1, l2, l3, l4, l5, l6], st, w, k, n) := goto_e rfl (op_167 (bA_q qh_28 30 167 rfl) (bA_q qh_28 31 1 rfl) (bA_q qh_28 32 168 rfl) rfl) (by decide)
theorem eL_law_1825 : WP (ML_law g) Q (1825, [l0, some (.ref p), l2, l3, l4, l5, l6], st, w, k, n) = WP (ML_law g) Q (1826, [l0, some (.ref p), l2, l3, l4, l5, l6], .ref p :: st, w, k, n) := alnR_e rfl (op_43 (bA_q qh_28 33 43 rfl)) rfl
theorem eL_law_1826 : WP (ML_law g) Q (1826, [some (.ref p), l1, l2, l3, l4, l5, l6], st, w, k, n) = WP (ML_law g) Q (1827, [some (.ref p), l1, l2, l3, l4, l5, l6], .ref p :: st, w, k, n) := alnR_e rfl (op_42 (bA_q qh_28 34 42 rfl)) rfl
theorem eL_law_1827 : WP (ML_law g) Q (1827, [l0, l1, l2, l3, some (.int a), l5, l6], st, w, k, n) = WP (ML_law g) Q (1829, [l0, l1, l2, l3, some (.int a), l5, l6], .int a :: st, w, k, n) := il_e rfl (op_21 (bA_q qh_28 35 21 rfl) (bA_q qh_28 36 4 rfl)) rfl
theorem eL_law_1829 : WP (ML_law g) Q (1829, [l0, l1, l2, l3, l4, l5, l6], st, w, k, n) = WP (ML_law g) Q (1830, [l0, l1, l2, l3, l4, l5, l6], .int 1 :: st, w, k, n) := ic_1 rfl (op_4 (bA_q qh_28 37 4 rfl))
theorem eL_law_1830 : WP (ML_law g) Q (1830, [l0, l1, l2, l3, l4, l5, l6], .int b :: .int a :: st, w, k, n) = WP (ML_law g) Q (1831, [l0, l1, l2, l3, l4, l5, l6], .int (a + b) :: st, w, k, n) := iadd_e rfl (op_96 (bA_q qh_28 38 96 rfl))
theorem eL_law_1831 : WP (ML_law g) Q (1831, [l0, l1, l2, l3, l4, l5, l6], .int a :: .ref p :: st, w, k, n) = gi (rd g w p) 1 fun N f => vp_in a N ∧ WP (ML_law g) Q (1832, [l0, l1, l2, l3, l4, l5, l6], .int (f a.toNatClampNeg) :: st, w, k, n) := iaload_e rfl (op_46 (bA_q qh_28 39 46 rfl))
theorem eL_law_1832 : WP (ML_law g) Q (1832, [some (.ref p), l1, l2, l3, l4, l5, l6], st, w, k, n) = WP (ML_law g) Q (1833, [some (.ref p), l1, l2, l3, l4, l5, l6], .ref p :: st, w, k, n) := alnR_e rfl (op_42 (bA_q qh_28 40 42 rfl)) rfl
theorem eL_law_1833 : WP (ML_law g) Q (1833, [l0, l1, l2, l3, some (.int a), l5, l6], st, w, k, n) = WP (ML_law g) Q (1835, [l0, l1, l2, l3, some (.int a), l5, l6], .int a :: st, w, k, n) := il_e rfl (op_21 (bA_q qh_28 41 21 rfl) (bA_q qh_28 42 4 rfl)) rfl
theorem eL_law_1835 : WP (ML_law g) Q (1835, [l0, l1, l2, l3, l4, l5, l6], st, w, k, n) = WP (ML_law g) Q (1836, [l0, l1, l2, l3, l4, l5, l6], .int 2 :: st, w, k, n) := ic_2 rfl (op_5 (bA_q qh_28 43 5 rfl))
theorem eL_law_1836 : WP (ML_law g) Q (1836, [l0, l1, l2, l3, l4, l5, l6], .int b :: .int a :: st, w, k, n) = WP (ML_law g) Q (1837, [l0, l1, l2, l3, l4, l5, l6], .int (a + b) :: st, w, k, n) := iadd_e rfl (op_96 (bA_q qh_28 44 96 rfl))
theorem eL_law_1837 : WP (ML_law g) Q (1837, [l0, l1, l2, l3, l4, l5, l6], .int a :: .ref p :: st, w, k, n) = gi (rd g w p) 1 fun N f => vp_in a N ∧ WP (ML_law g) Q (1838, [l0, l1, l2, l3, l4, l5, l6], .int (f a.toNatClampNeg) :: st, w, k, n) := iaload_e rfl (op_46 (bA_q qh_28 45 46 rfl))
theorem eL_law_1838 : WP (ML_law g) Q (1838, [l0, l1, l2, some (.ref p), l4, l5, l6], st, w, k, n) = WP (ML_law g) Q (1839, [l0, l1, l2, some (.ref p), l4, l5, l6], .ref p :: st, w, k, n) := alnR_e rfl (op_45 (bA_q qh_28 46 45 rfl)) rfl
theorem eL_law_1839RR {z0 : Nat} {z1 : Int32} {z2 : Int32} {z3 : Nat} : WP (ML_law g) Q (1839, [l0, l1, l2, l3, l4, l5, l6], .ref z3 :: .int z2 :: .int z1 :: .ref z0 :: st, w, k, n) = (wt st ≤ 8 ∧ k + 6 ≤ 58408 ∧ n + 36 ≤ 1451408 ∧ WP (ML_areSame g) (kx (fun v w' => WP (ML_law g) Q (1842, [l0, l1, l2, l3, l4, l5, l6], v.toList ++ st, w', k + 6, n + 36)) (fun E w' => Q (.inr E) w')) (0, [some (.ref z0), some (.int z1), some (.int z2), some (.ref z3), none], [], w, 0, 0)) := csS0 (M := (ML_law g)) (mc := (fun _ _ => 6)) (ms := (fun _ _ => 36)) (As := [.ref z0, .int z1, .int z2, .ref z3]) (rest := st) (ML_areSame g) rfl rfl rfl (op_184 (bA_q qh_28 47 184 rfl) (bA_q qh_28 48 1 rfl) (bA_q qh_28 49 31 rfl) rfl) rfl rfl rfl rfl rfl rfl rfl
theorem eL_law_1842 : WP (ML_law g) Q (1842, [l0, l1, l2, l3, l4, l5, l6], .int a :: st, w, k, n) = WP (ML_law g) Q (1844, [l0, l1, l2, l3, nl l4, some (.int a), l6], st, w, k, n) := is_e rfl (op_54 (bA_q qh_28 50 54 rfl) (bA_q qh_28 51 5 rfl)) rfl rfl
theorem eL_law_1844 : WP (ML_law g) Q (1844, [l0, l1, some (.ref p), l3, l4, l5, l6], st, w, k, n) = WP (ML_law g) Q (1845, [l0, l1, some (.ref p), l3, l4, l5, l6], .ref p :: st, w, k, n) := alnR_e rfl (op_44 (bA_q qh_28 52 44 rfl)) rfl
theorem eL_law_1845 : WP (ML_law g) Q (1845, [some (.ref p), l1, l2, l3, l4, l5, l6], st, w, k, n) = WP (ML_law g) Q (1846, [some (.ref p), l1, l2, l3, l4, l5, l6], .ref p :: st, w, k, n) := alnR_e rfl (op_42 (bA_q qh_28 53 42 rfl)) rfl
theorem eL_law_1846 : WP (ML_law g) Q (1846, [l0, l1, l2, l3, some (.int a), l5, l6], st, w, k, n) = WP (ML_law g) Q (1848, [l0, l1, l2, l3, some (.int a), l5, l6], .int a :: st, w, k, n) := il_e rfl (op_21 (bA_q qh_28 54 21 rfl) (bA_q qh_28 55 4 rfl)) rfl
theorem eL_law_1848 : WP (ML_law g) Q (1848, [l0, l1, l2, l3, l4, l5, l6], st, w, k, n) = WP (ML_law g) Q (1849, [l0, l1, l2, l3, l4, l5, l6], .int 1 :: st, w, k, n) := ic_1 rfl (op_4 (bA_q qh_28 56 4 rfl))
theorem eL_law_1849 : WP (ML_law g) Q (1849, [l0, l1, l2, l3, l4, l5, l6], .int b :: .int a :: st, w, k, n) = WP (ML_law g) Q (1850, [l0, l1, l2, l3, l4, l5, l6], .int (a + b) :: st, w, k, n) := iadd_e rfl (op_96 (bA_q qh_28 57 96 rfl))
theorem eL_law_1850 : WP (ML_law g) Q (1850, [l0, l1, l2, l3, l4, l5, l6], .int a :: .ref p :: st, w, k, n) = gi (rd g w p) 1 fun N f => vp_in a N ∧ WP (ML_law g) Q (1851, [l0, l1, l2, l3, l4, l5, l6], .int (f a.toNatClampNeg) :: st, w, k, n) := iaload_e rfl (op_46 (bA_q qh_28 58 46 rfl))
theorem eL_law_1851 : WP (ML_law g) Q (1851, [some (.ref p), l1, l2, l3, l4, l5, l6], st, w, k, n) = WP (ML_law g) Q (1852, [some (.ref p), l1, l2, l3, l4, l5, l6], .ref p :: st, w, k, n) := alnR_e rfl (op_42 (bA_q qh_28 59 42 rfl)) rfl
theorem eL_law_1852 : WP (ML_law g) Q (1852, [l0, l1, l2, l3, some (.int a), l5, l6], st, w, k, n) = WP (ML_law g) Q (1854, [l0, l1, l2, l3, some (.int a), l5, l6], .int a :: st, w, k, n) := il_e rfl (op_21 (bA_q qh_28 60 21 rfl) (bA_q qh_28 61 4 rfl)) rfl
theorem eL_law_1854 : WP (ML_law g) Q (1854, [l0, l1, l2, l3, l4, l5, l6], st, w, k, n) = WP (ML_law g) Q (1855, [l0, l1, l2, l3, l4, l5, l6], .int 2 :: st, w, k, n) := ic_2 rfl (op_5 (bA_q qh_28 62 5 rfl))
theorem eL_law_1855 : WP (ML_law g) Q (1855, [l0, l1, l2, l3, l4, l5, l6], .int b :: .int a :: st, w, k, n) = WP (ML_law g) Q (1856, [l0, l1, l2, l3, l4, l5, l6], .int (a + b) :: st, w, k, n) := iadd_e rfl (op_96 (bA_q qh_28 63 96 rfl))
theorem eL_law_1856 : WP (ML_law g) Q (1856, [l0, l1, l2, l3, l4, l5, l6], .int a :: .ref p :: st, w, k, n) = gi (rd g w p) 1 fun N f => vp_in a N ∧ WP (ML_law g) Q (1857, [l0, l1, l2, l3, l4, l5, l6], .int (f a.toNatClampNeg) :: st, w, k, n) := iaload_e rfl (op_46 (bA_q qh_29 0 46 rfl))
theorem eL_law_1857 {z0 : Int32} {z1 : Int32} : WP (ML_law g) Q (1857, [l0, l1, l2, l3, l4, l5, l6], .int z1 :: .int z0 :: .ref p :: st, w, k, n) = (go (rd g w p) 7 (fun _ => True) ∧ wt st ≤ 8 ∧ k + 0 ≤ 58408 ∧ n + 0 ≤ 1451408 ∧ WP (MX3_areSame g) (kx (fun v w' => WP (ML_law g) Q (1860, [l0, l1, l2, l3, l4, l5, l6], v.toList ++ st, w', k + 0, n + 0)) (fun E w' => Q (.inr E) w')) (0, [some (.ref p), some (.int z0), some (.int z1)], [], w, 0, 0)) := csV0 (M := (ML_law g)) (mc := (fun _ _ => 0)) (ms := (fun _ _ => 0)) (As := [.int z0, .int z1]) (rest := st) (MX3_areSame g) rfl rfl rfl (op_182 (bA_q qh_29 1 182 rfl) (bA_q qh_29 2 1 rfl) (bA_q qh_29 3 33 rfl) rfl) rfl rfl rfl rfl rfl rfl
theorem eL_law_1860 : WP (ML_law g) Q (1860, [l0, l1, l2, l3, l4, l5, l6], .int a :: st, w, k, n) = WP (ML_law g) Q (1862, [l0, l1, l2, l3, l4, nl l5, some (.int a)], st, w, k, n) := is_e rfl (op_54 (bA_q qh_29 4 54 rfl) (bA_q qh_29 5 6 rfl)) rfl rfl
theorem eL_law_1862 : WP (ML_law g) Q (1862, [l0, l1, l2, l3, l4, l5, l6], st, w, k, n) = WP (ML_law g) Q (2246, [l0, l1, l2, l3, l4, l5, l6], st, w, k, n) := goto_e rfl (op_167 (bA_q qh_29 6 167 rfl) (bA_q qh_29 7 1 rfl) (bA_q qh_29 8 128 rfl) rfl) (by decide)
theorem eL_law_1865 : WP (ML_law g) Q (1865, [l0, some (.ref p), l2, l3, l4, l5, l6], st, w, k, n) = WP (ML_law g) Q (1866, [l0, some (.ref p), l2, l3, l4, l5, l6], .ref p :: st, w, k, n) := alnR_e rfl (op_43 (bA_q qh_29 9 43 rfl)) rfl
theorem eL_law_1866 : WP (ML_law g) Q (1866, [some (.ref p), l1, l2, l3, l4, l5, l6], st, w, k, n) = WP (ML_law g) Q (1867, [some (.ref p), l1, l2, l3, l4, l5, l6], .ref p :: st, w, k, n) := alnR_e rfl (op_42 (bA_q qh_29 10 42 rfl)) rfl
theorem eL_law_1867 : WP (ML_law g) Q (1867, [l0, l1, l2, l3, some (.int a), l5, l6], st, w, k, n) = WP (ML_law g) Q (1869, [l0, l1, l2, l3, some (.int a), l5, l6], .int a :: st, w, k, n) := il_e rfl (op_21 (bA_q qh_29 11 21 rfl) (bA_q qh_29 12 4 rfl)) rfl
theorem eL_law_1869 : WP (ML_law g) Q (1869, [l0, l1, l2, l3, l4, l5, l6], st, w, k, n) = WP (ML_law g) Q (1870, [l0, l1, l2, l3, l4, l5, l6], .int 1 :: st, w, k, n) := ic_1 rfl (op_4 (bA_q qh_29 13 4 rfl))
theorem eL_law_1870 : WP (ML_law g) Q (1870, [l0, l1, l2, l3, l4, l5, l6], .int b :: .int a :: st, w, k, n) = WP (ML_law g) Q (1871, [l0, l1, l2, l3, l4, l5, l6], .int (a + b) :: st, w, k, n) := iadd_e rfl (op_96 (bA_q qh_29 14 96 rfl))
theorem eL_law_1871 : WP (ML_law g) Q (1871, [l0, l1, l2, l3, l4, l5, l6], .int a :: .ref p :: st, w, k, n) = gi (rd g w p) 1 fun N f => vp_in a N ∧ WP (ML_law g) Q (1872, [l0, l1, l2, l3, l4, l5, l6], .int (f a.toNatClampNeg) :: st, w, k, n) := iaload_e rfl (op_46 (bA_q qh_29 15 46 rfl))
theorem eL_law_1872 : WP (ML_law g) Q (1872, [some (.ref p), l1, l2, l3, l4, l5, l6], st, w, k, n) = WP (ML_law g) Q (1873, [some (.ref p), l1, l2, l3, l4, l5, l6], .ref p :: st, w, k, n) := alnR_e rfl (op_42 (bA_q qh_29 16 42 rfl)) rfl
theorem eL_law_1873 : WP (ML_law g) Q (1873, [l0, l1, l2, l3, some (.int a), l5, l6], st, w, k, n) = WP (ML_law g) Q (1875, [l0, l1, l2, l3, some (.int a), l5, l6], .int a :: st, w, k, n) := il_e rfl (op_21 (bA_q qh_29 17 21 rfl) (bA_q qh_29 18 4 rfl)) rfl
theorem eL_law_1875 : WP (ML_law g) Q (1875, [l0, l1, l2, l3, l4, l5, l6], st, w, k, n) = WP (ML_law g) Q (1876, [l0, l1, l2, l3, l4, l5, l6], .int 2 :: st, w, k, n) := ic_2 rfl (op_5 (bA_q qh_29 19 5 rfl))
theorem eL_law_1876 : WP (ML_law g) Q (1876, [l0, l1, l2, l3, l4, l5, l6], .int b :: .int a :: st, w, k, n) = WP (ML_law g) Q (1877, [l0, l1, l2, l3, l4, l5, l6], .int (a + b) :: st, w, k, n) := iadd_e rfl (op_96 (bA_q qh_29 20 96 rfl))
theorem eL_law_1877 : WP (ML_law g) Q (1877, [l0, l1, l2, l3, l4, l5, l6], .int a :: .ref p :: st, w, k, n) = gi (rd g w p) 1 fun N f => vp_in a N ∧ WP (ML_law g) Q (1878, [l0, l1, l2, l3, l4, l5, l6], .int (f a.toNatClampNeg) :: st, w, k, n) := iaload_e rfl (op_46 (bA_q qh_29 21 46 rfl))
theorem eL_law_1878 : WP (ML_law g) Q (1878, [l0, l1, l2, some (.ref p), l4, l5, l6], st, w, k, n) = WP (ML_law g) Q (1879, [l0, l1, l2, some (.ref p), l4, l5, l6], .ref p :: st, w, k, n) := alnR_e rfl (op_45 (bA_q qh_29 22 45 rfl)) rfl
theorem eL_law_1879RR {z0 : Nat} {z1 : Int32} {z2 : Int32} {z3 : Nat} : WP (ML_law g) Q (1879, [l0, l1, l2, l3, l4, l5, l6], .ref z3 :: .int z2 :: .int z1 :: .ref z0 :: st, w, k, n) = (wt st ≤ 8 ∧ k + 6 ≤ 58408 ∧ n + 32 ≤ 1451408 ∧ WP (ML_isSameAs g) (kx (fun v w' => WP (ML_law g) Q (1882, [l0, l1, l2, l3, l4, l5, l6], v.toList ++ st, w', k + 6, n + 32)) (fun E w' => Q (.inr E) w')) (0, [some (.ref z0), some (.int z1), some (.int z2), some (.ref z3), none], [], w, 0, 0)) := csS0 (M := (ML_law g)) (mc := (fun _ _ => 6)) (ms := (fun _ _ => 32)) (As := [.ref z0, .int z1, .int z2, .ref z3]) (rest := st) (ML_isSameAs g) rfl rfl rfl (op_184 (bA_q qh_29 23 184 rfl) (bA_q qh_29 24 1 rfl) (bA_q qh_29 25 34 rfl) rfl) rfl rfl rfl rfl rfl rfl rfl
theorem eL_law_1882 : WP (ML_law g) Q (1882, [l0, l1, l2, l3, l4, l5, l6], .int a :: st, w, k, n) = WP (ML_law g) Q (1884, [l0, l1, l2, l3, nl l4, some (.int a), l6], st, w, k, n) := is_e rfl (op_54 (bA_q qh_29 26 54 rfl) (bA_q qh_29 27 5 rfl)) rfl rfl
theorem eL_law_1884 : WP (ML_law g) Q (1884, [l0, l1, some (.ref p), l3, l4, l5, l6], st, w, k, n) = WP (ML_law g) Q (1885, [l0, l1, some (.ref p), l3, l4, l5, l6], .ref p :: st, w, k, n) := alnR_e rfl (op_44 (bA_q qh_29 28 44 rfl)) rfl
theorem eL_law_1885 : WP (ML_law g) Q (1885, [some (.ref p), l1, l2, l3, l4, l5, l6], st, w, k, n) = WP (ML_law g) Q (1886, [some (.ref p), l1, l2, l3, l4, l5, l6], .ref p :: st, w, k, n) := alnR_e rfl (op_42 (bA_q qh_29 29 42 rfl)) rfl
theorem eL_law_1886 : WP (ML_law g) Q (1886, [l0, l1, l2, l3, some (.int a), l5, l6], st, w, k, n) = WP (ML_law g) Q (1888, [l0, l1, l2, l3, some (.int a), l5, l6], .int a :: st, w, k, n) := il_e rfl (op_21 (bA_q qh_29 30 21 rfl) (bA_q qh_29 31 4 rfl)) rfl
theorem eL_law_1888 : WP (ML_law g) Q (1888, [l0, l1, l2, l3, l4, l5, l6], st, w, k, n) = WP (ML_law g) Q (1889, [l0, l1, l2, l3, l4, l5, l6], .int 1 :: st, w, k, n) := ic_1 rfl (op_4 (bA_q qh_29 32 4 rfl))
theorem eL_law_1889 : WP (ML_law g) Q (1889, [l0, l1, l2, l3, l4, l5, l6], .int b :: .int a :: st, w, k, n) = WP (ML_law g) Q (1890, [l0, l1, l2, l3, l4, l5, l6], .int (a + b) :: st, w, k, n) := iadd_e rfl (op_96 (bA_q qh_29 33 96 rfl))
theorem eL_law_1890 : WP (ML_law g) Q (1890, [l0, l1, l2, l3, l4, l5, l6], .int a :: .ref p :: st, w, k, n) = gi (rd g w p) 1 fun N f => vp_in a N ∧ WP (ML_law g) Q (1891, [l0, l1, l2, l3, l4, l5, l6], .int (f a.toNatClampNeg) :: st, w, k, n) := iaload_e rfl (op_46 (bA_q qh_29 34 46 rfl))
theorem eL_law_1891 : WP (ML_law g) Q (1891, [some (.ref p), l1, l2, l3, l4, l5, l6], st, w, k, n) = WP (ML_law g) Q (1892, [some (.ref p), l1, l2, l3, l4, l5, l6], .ref p :: st, w, k, n) := alnR_e rfl (op_42 (bA_q qh_29 35 42 rfl)) rfl
theorem eL_law_1892 : WP (ML_law g) Q (1892, [l0, l1, l2, l3, some (.int a), l5, l6], st, w, k, n) = WP (ML_law g) Q (1894, [l0, l1, l2, l3, some (.int a), l5, l6], .int a :: st, w, k, n) := il_e rfl (op_21 (bA_q qh_29 36 21 rfl) (bA_q qh_29 37 4 rfl)) rfl
theorem eL_law_1894 : WP (ML_law g) Q (1894, [l0, l1, l2, l3, l4, l5, l6], st, w, k, n) = WP (ML_law g) Q (1895, [l0, l1, l2, l3, l4, l5, l6], .int 2 :: st, w, k, n) := ic_2 rfl (op_5 (bA_q qh_29 38 5 rfl))
theorem eL_law_1895 : WP (ML_law g) Q (1895, [l0, l1, l2, l3, l4, l5, l6], .int b :: .int a :: st, w, k, n) = WP (ML_law g) Q (1896, [l0, l1, l2, l3, l4, l5, l6], .int (a + b) :: st, w, k, n) := iadd_e rfl (op_96 (bA_q qh_29 39 96 rfl))
theorem eL_law_1896 : WP (ML_law g) Q (1896, [l0, l1, l2, l3, l4, l5, l6], .int a :: .ref p :: st, w, k, n) = gi (rd g w p) 1 fun N f => vp_in a N ∧ WP (ML_law g) Q (1897, [l0, l1, l2, l3, l4, l5, l6], .int (f a.toNatClampNeg) :: st, w, k, n) := iaload_e rfl (op_46 (bA_q qh_29 40 46 rfl))
theorem eL_law_1897 {z0 : Int32} {z1 : Int32} : WP (ML_law g) Q (1897, [l0, l1, l2, l3, l4, l5, l6], .int z1 :: .int z0 :: .ref p :: st, w, k, n) = (go (rd g w p) 7 (fun _ => True) ∧ wt st ≤ 8 ∧ k + 0 ≤ 58408 ∧ n + 0 ≤ 1451408 ∧ WP (MX3_isSameAs g) (kx (fun v w' => WP (ML_law g) Q (1900, [l0, l1, l2, l3, l4, l5, l6], v.toList ++ st, w', k + 0, n + 0)) (fun E w' => Q (.inr E) w')) (0, [some (.ref p), some (.int z0), some (.int z1)], [], w, 0, 0)) := csV0 (M := (ML_law g)) (mc := (fun _ _ => 0)) (ms := (fun _ _ => 0)) (As := [.int z0, .int z1]) (rest := st) (MX3_isSameAs g) rfl rfl rfl (op_182 (bA_q qh_29 41 182 rfl) (bA_q qh_29 42 1 rfl) (bA_q qh_29 43 36 rfl) rfl) rfl rfl rfl rfl rfl rfl
theorem eL_law_1900 : WP (ML_law g) Q (1900, [l0, l1, l2, l3, l4, l5, l6], .int a :: st, w, k, n) = WP (ML_law g) Q (1902, [l0, l1, l2, l3, l4, nl l5, some (.int a)], st, w, k, n) := is_e rfl (op_54 (bA_q qh_29 44 54 rfl) (bA_q qh_29 45 6 rfl)) rfl rfl
theorem eL_law_1902 : WP (ML_law g) Q (1902, [l0, l1, l2, l3, l4, l5, l6], st, w, k, n) = WP (ML_law g) Q (2246, [l0, l1, l2, l3, l4, l5, l6], st, w, k, n) := goto_e rfl (op_167 (bA_q qh_29 46 167 rfl) (bA_q qh_29 47 1 rfl) (bA_q qh_29 48 88 rfl) rfl) (by decide)
theorem eL_law_1905 : WP (ML_law g) Q (1905, [l0, some (.ref p), l2, l3, l4, l5, l6], st, w, k, n) = WP (ML_law g) Q (1906, [l0, some (.ref p), l2, l3, l4, l5, l6], .ref p :: st, w, k, n) := alnR_e rfl (op_43 (bA_q qh_29 49 43 rfl)) rfl
theorem eL_law_1906 : WP (ML_law g) Q (1906, [some (.ref p), l1, l2, l3, l4, l5, l6], st, w, k, n) = WP (ML_law g) Q (1907, [some (.ref p), l1, l2, l3, l4, l5, l6], .ref p :: st, w, k, n) := alnR_e rfl (op_42 (bA_q qh_29 50 42 rfl)) rfl
theorem eL_law_1907 : WP (ML_law g) Q (1907, [l0, l1, l2, l3, some (.int a), l5, l6], st, w, k, n) = WP (ML_law g) Q (1909, [l0, l1, l2, l3, some (.int a), l5, l6], .int a :: st, w, k, n) := il_e rfl (op_21 (bA_q qh_29 51 21 rfl) (bA_q qh_29 52 4 rfl)) rfl
theorem eL_law_1909 : WP (ML_law g) Q (1909, [l0, l1, l2, l3, l4, l5, l6], st, w, k, n) = WP (ML_law g) Q (1910, [l0, l1, l2, l3, l4, l5, l6], .int 1 :: st, w, k, n) := ic_1 rfl (op_4 (bA_q qh_29 53 4 rfl))
theorem eL_law_1910 : WP (ML_law g) Q (1910, [l0, l1, l2, l3, l4, l5, l6], .int b :: .int a :: st, w, k, n) = WP (ML_law g) Q (1911, [l0, l1, l2, l3, l4, l5, l6], .int (a + b) :: st, w, k, n) := iadd_e rfl (op_96 (bA_q qh_29 54 96 rfl))
theorem eL_law_1911 : WP (ML_law g) Q (1911, [l0, l1, l2, l3, l4, l5, l6], .int a :: .ref p :: st, w, k, n) = gi (rd g w p) 1 fun N f => vp_in a N ∧ WP (ML_law g) Q (1912, [l0, l1, l2, l3, l4, l5, l6], .int (f a.toNatClampNeg) :: st, w, k, n) := iaload_e rfl (op_46 (bA_q qh_29 55 46 rfl))
theorem eL_law_1912 : WP (ML_law g) Q (1912, [l0, l1, l2, some (.ref p), l4, l5, l6], st, w, k, n) = WP (ML_law g) Q (1913, [l0, l1, l2, some (.ref p), l4, l5, l6], .ref p :: st, w, k, n) := alnR_e rfl (op_45 (bA_q qh_29 56 45 rfl)) rfl
theorem eL_law_1913RR {z0 : Nat} {z1 : Int32} {z2 : Nat} : WP (ML_law g) Q (1913, [l0, l1, l2, l3, l4, l5, l6], .ref z2 :: .int z1 :: .ref z0 :: st, w, k, n) = (wt st ≤ 8 ∧ k + 2 ≤ 58408 ∧ n + 12 ≤ 1451408 ∧ WP (ML_likes g) (kx (fun v w' => WP (ML_law g) Q (1916, [l0, l1, l2, l3, l4, l5, l6], v.toList ++ st, w', k + 2, n + 12)) (fun E w' => Q (.inr E) w')) (0, [some (.ref z0), some (.int z1), some (.ref z2), none], [], w, 0, 0)) := csS0 (M := (ML_law g)) (mc := (fun _ _ => 2)) (ms := (fun _ _ => 12)) (As := [.ref z0, .int z1, .ref z2]) (rest := st) (ML_likes g) rfl rfl rfl (op_184 (bA_q qh_29 57 184 rfl) (bA_q qh_29 58 1 rfl) (bA_q qh_29 59 37 rfl) rfl) rfl rfl rfl rfl rfl rfl rfl
theorem eL_law_1916 : WP (ML_law g) Q (1916, [l0, l1, l2, l3, l4, l5, l6], .int a :: st, w, k, n) = WP (ML_law g) Q (1918, [l0, l1, l2, l3, nl l4, some (.int a), l6], st, w, k, n) := is_e rfl (op_54 (bA_q qh_29 60 54 rfl) (bA_q qh_29 61 5 rfl)) rfl rfl
theorem eL_law_1918 : WP (ML_law g) Q (1918, [l0, l1, some (.ref p), l3, l4, l5, l6], st, w, k, n) = WP (ML_law g) Q (1919, [l0, l1, some (.ref p), l3, l4, l5, l6], .ref p :: st, w, k, n) := alnR_e rfl (op_44 (bA_q qh_29 62 44 rfl)) rfl
theorem eL_law_1919 : WP (ML_law g) Q (1919, [some (.ref p), l1, l2, l3, l4, l5, l6], st, w, k, n) = WP (ML_law g) Q (1920, [some (.ref p), l1, l2, l3, l4, l5, l6], .ref p :: st, w, k, n) := alnR_e rfl (op_42 (bA_q qh_29 63 42 rfl)) rfl
end
end
/-! 69.lawe5.lean.txt -/
section
section
variable {g : RO} {Q : Ot → Hw → Prop} {st : List Value} {w : Hw} {k n p q : Nat} {a b : Int32} {x y : Int64} {u v : Value} {l0 l1 l2 l3 l4 l5 l6 : Option Value}
theorem eL_law_1920 : WP (ML_law g) Q (1920, [l0, l1, l2, l3, some (.int a), l5, l6], st, w, k, n) = WP (ML_law g) Q (1922, [l0, l1, l2, l3, some (.int a), l5, l6], .int a :: st, w, k, n) := il_e rfl (op_21 (bA_q qh_30 0 21 rfl) (bA_q qh_30 1 4 rfl)) rfl
theorem eL_law_1922 : WP (ML_law g) Q (1922, [l0, l1, l2, l3, l4, l5, l6], st, w, k, n) = WP (ML_law g) Q (1923, [l0, l1, l2, l3, l4, l5, l6], .int 1 :: st, w, k, n) := ic_1 rfl (op_4 (bA_q qh_30 2 4 rfl))
theorem eL_law_1923 : WP (ML_law g) Q (1923, [l0, l1, l2, l3, l4, l5, l6], .int b :: .int a :: st, w, k, n) = WP (ML_law g) Q (1924, [l0, l1, l2, l3, l4, l5, l6], .int (a + b) :: st, w, k, n) := iadd_e rfl (op_96 (bA_q qh_30 3 96 rfl))
theorem eL_law_1924 : WP (ML_law g) Q (1924, [l0, l1, l2, l3, l4, l5, l6], .int a :: .ref p :: st, w, k, n) = gi (rd g w p) 1 fun N f => vp_in a N ∧ WP (ML_law g) Q (1925, [l0, l1, l2, l3, l4, l5, l6], .int (f a.toNatClampNeg) :: st, w, k, n) := iaload_e rfl (op_46 (bA_q qh_30 4 46 rfl))
theorem eL_law_1925 {z0 : Int32} : WP (ML_law g) Q (1925, [l0, l1, l2, l3, l4, l5, l6], .int z0 :: .ref p :: st, w, k, n) = (go (rd g w p) 7 (fun _ => True) ∧ wt st ≤ 8 ∧ k + 0 ≤ 58408 ∧ n + 0 ≤ 1451408 ∧ WP (MX3_likes g) (kx (fun v w' => WP (ML_law g) Q (1928, [l0, l1, l2, l3, l4, l5, l6], v.toList ++ st, w', k + 0, n + 0)) (fun E w' => Q (.inr E) w')) (0, [some (.ref p), some (.int z0)], [], w, 0, 0)) := csV0 (M := (ML_law g)) (mc := (fun _ _ => 0)) (ms := (fun _ _ => 0)) (As := [.int z0]) (rest := st) (MX3_likes g) rfl rfl rfl (op_182 (bA_q qh_30 5 182 rfl) (bA_q qh_30 6 1 rfl) (bA_q qh_30 7 39 rfl) rfl) rfl rfl rfl rfl rfl rfl
theorem eL_law_1928 : WP (ML_law g) Q (1928, [l0, l1, l2, l3, l4, l5, l6], .int a :: st, w, k, n) = WP (ML_law g) Q (1930, [l0, l1, l2, l3, l4, nl l5, some (.int a)], st, w, k, n) := is_e rfl (op_54 (bA_q qh_30 8 54 rfl) (bA_q qh_30 9 6 rfl)) rfl rfl
theorem eL_law_1930 : WP (ML_law g) Q (1930, [l0, l1, l2, l3, l4, l5, l6], st, w, k, n) = WP (ML_law g) Q (2246, [l0, l1, l2, l3, l4, l5, l6], st, w, k, n) := goto_e rfl (op_167 (bA_q qh_30 10 167 rfl) (bA_q qh_30 11 1 rfl) (bA_q qh_30 12 60 rfl) rfl) (by decide)
theorem eL_law_1933 : WP (ML_law g) Q (1933, [l0, some (.ref p), l2, l3, l4, l5, l6], st, w, k, n) = WP (ML_law g) Q (1934, [l0, some (.ref p), l2, l3, l4, l5, l6], .ref p :: st, w, k, n) := alnR_e rfl (op_43 (bA_q qh_30 13 43 rfl)) rfl
theorem eL_law_1934 : WP (ML_law g) Q (1934, [some (.ref p), l1, l2, l3, l4, l5, l6], st, w, k, n) = WP (ML_law g) Q (1935, [some (.ref p), l1, l2, l3, l4, l5, l6], .ref p :: st, w, k, n) := alnR_e rfl (op_42 (bA_q qh_30 14 42 rfl)) rfl
theorem eL_law_1935 : WP (ML_law g) Q (1935, [l0, l1, l2, l3, some (.int a), l5, l6], st, w, k, n) = WP (ML_law g) Q (1937, [l0, l1, l2, l3, some (.int a), l5, l6], .int a :: st, w, k, n) := il_e rfl (op_21 (bA_q qh_30 15 21 rfl) (bA_q qh_30 16 4 rfl)) rfl
theorem eL_law_1937 : WP (ML_law g) Q (1937, [l0, l1, l2, l3, l4, l5, l6], st, w, k, n) = WP (ML_law g) Q (1938, [l0, l1, l2, l3, l4, l5, l6], .int 1 :: st, w, k, n) := ic_1 rfl (op_4 (bA_q qh_30 17 4 rfl))
theorem eL_law_1938 : WP (ML_law g) Q (1938, [l0, l1, l2, l3, l4, l5, l6], .int b :: .int a :: st, w, k, n) = WP (ML_law g) Q (1939, [l0, l1, l2, l3, l4, l5, l6], .int (a + b) :: st, w, k, n) := iadd_e rfl (op_96 (bA_q qh_30 18 96 rfl))
theorem eL_law_1939 : WP (ML_law g) Q (1939, [l0, l1, l2, l3, l4, l5, l6], .int a :: .ref p :: st, w, k, n) = gi (rd g w p) 1 fun N f => vp_in a N ∧ WP (ML_law g) Q (1940, [l0, l1, l2, l3, l4, l5, l6], .int (f a.toNatClampNeg) :: st, w, k, n) := iaload_e rfl (op_46 (bA_q qh_30 19 46 rfl))
theorem eL_law_1940 : WP (ML_law g) Q (1940, [l0, l1, l2, some (.ref p), l4, l5, l6], st, w, k, n) = WP (ML_law g) Q (1941, [l0, l1, l2, some (.ref p), l4, l5, l6], .ref p :: st, w, k, n) := alnR_e rfl (op_45 (bA_q qh_30 20 45 rfl)) rfl
theorem eL_law_1941RR {z0 : Nat} {z1 : Int32} {z2 : Nat} : WP (ML_law g) Q (1941, [l0, l1, l2, l3, l4, l5, l6], .ref z2 :: .int z1 :: .ref z0 :: st, w, k, n) = (wt st ≤ 8 ∧ k + 2 ≤ 58408 ∧ n + 12 ≤ 1451408 ∧ WP (ML_lay g) (kx (fun v w' => WP (ML_law g) Q (1944, [l0, l1, l2, l3, l4, l5, l6], v.toList ++ st, w', k + 2, n + 12)) (fun E w' => Q (.inr E) w')) (0, [some (.ref z0), some (.int z1), some (.ref z2), none], [], w, 0, 0)) := csS0 (M := (ML_law g)) (mc := (fun _ _ => 2)) (ms := (fun _ _ => 12)) (As := [.ref z0, .int z1, .ref z2]) (rest := st) (ML_lay g) rfl rfl rfl (op_184 (bA_q qh_30 21 184 rfl) (bA_q qh_30 22 1 rfl) (bA_q qh_30 23 40 rfl) rfl) rfl rfl rfl rfl rfl rfl rfl
theorem eL_law_1944 : WP (ML_law g) Q (1944, [l0, l1, l2, l3, l4, l5, l6], .int a :: st, w, k, n) = WP (ML_law g) Q (1946, [l0, l1, l2, l3, nl l4, some (.int a), l6], st, w, k, n) := is_e rfl (op_54 (bA_q qh_30 24 54 rfl) (bA_q qh_30 25 5 rfl)) rfl rfl
theorem eL_law_1946 : WP (ML_law g) Q (1946, [l0, l1, some (.ref p), l3, l4, l5, l6], st, w, k, n) = WP (ML_law g) Q (1947, [l0, l1, some (.ref p), l3, l4, l5, l6], .ref p :: st, w, k, n) := alnR_e rfl (op_44 (bA_q qh_30 26 44 rfl)) rfl
theorem eL_law_1947 : WP (ML_law g) Q (1947, [some (.ref p), l1, l2, l3, l4, l5, l6], st, w, k, n) = WP (ML_law g) Q (1948, [some (.ref p), l1, l2, l3, l4, l5, l6], .ref p :: st, w, k, n) := alnR_e rfl (op_42 (bA_q qh_30 27 42 rfl)) rfl
theorem eL_law_1948 : WP (ML_law g) Q (1948, [l0, l1, l2, l3, some (.int a), l5, l6], st, w, k, n) = WP (ML_law g) Q (1950, [l0, l1, l2, l3, some (.int a), l5, l6], .int a :: st, w, k, n) := il_e rfl (op_21 (bA_q qh_30 28 21 rfl) (bA_q qh_30 29 4 rfl)) rfl
theorem eL_law_1950 : WP (ML_law g) Q (1950, [l0, l1, l2, l3, l4, l5, l6], st, w, k, n) = WP (ML_law g) Q (1951, [l0, l1, l2, l3, l4, l5, l6], .int 1 :: st, w, k, n) := ic_1 rfl (op_4 (bA_q qh_30 30 4 rfl))
theorem eL_law_1951 : WP (ML_law g) Q (1951, [l0, l1, l2, l3, l4, l5, l6], .int b :: .int a :: st, w, k, n) = WP (ML_law g) Q (1952, [l0, l1, l2, l3, l4, l5, l6], .int (a + b) :: st, w, k, n) := iadd_e rfl (op_96 (bA_q qh_30 31 96 rfl))
theorem eL_law_1952 : WP (ML_law g) Q (1952, [l0, l1, l2, l3, l4, l5, l6], .int a :: .ref p :: st, w, k, n) = gi (rd g w p) 1 fun N f => vp_in a N ∧ WP (ML_law g) Q (1953, [l0, l1, l2, l3, l4, l5, l6], .int (f a.toNatClampNeg) :: st, w, k, n) := iaload_e rfl (op_46 (bA_q qh_30 32 46 rfl))
theorem eL_law_1953 {z0 : Int32} : WP (ML_law g) Q (1953, [l0, l1, l2, l3, l4, l5, l6], .int z0 :: .ref p :: st, w, k, n) = (go (rd g w p) 7 (fun _ => True) ∧ wt st ≤ 8 ∧ k + 1 ≤ 58408 ∧ n + 15 ≤ 1451408 ∧ WP (MX3_lay g) (kx (fun v w' => WP (ML_law g) Q (1956, [l0, l1, l2, l3, l4, l5, l6], v.toList ++ st, w', k + 1, n + 15)) (fun E w' => Q (.inr E) w')) (0, [some (.ref p), some (.int z0)], [], w, 0, 0)) := csV0 (M := (ML_law g)) (mc := (fun _ _ => 1)) (ms := (fun _ _ => 15)) (As := [.int z0]) (rest := st) (MX3_lay g) rfl rfl rfl (op_182 (bA_q qh_30 33 182 rfl) (bA_q qh_30 34 1 rfl) (bA_q qh_30 35 42 rfl) rfl) rfl rfl rfl rfl rfl rfl
theorem eL_law_1956 : WP (ML_law g) Q (1956, [l0, l1, l2, l3, l4, l5, l6], .int a :: st, w, k, n) = WP (ML_law g) Q (1958, [l0, l1, l2, l3, l4, nl l5, some (.int a)], st, w, k, n) := is_e rfl (op_54 (bA_q qh_30 36 54 rfl) (bA_q qh_30 37 6 rfl)) rfl rfl
theorem eL_law_1958 : WP (ML_law g) Q (1958, [l0, l1, l2, l3, l4, l5, l6], st, w, k, n) = WP (ML_law g) Q (2246, [l0, l1, l2, l3, l4, l5, l6], st, w, k, n) := goto_e rfl (op_167 (bA_q qh_30 38 167 rfl) (bA_q qh_30 39 1 rfl) (bA_q qh_30 40 32 rfl) rfl) (by decide)
theorem eL_law_1961 : WP (ML_law g) Q (1961, [l0, some (.ref p), l2, l3, l4, l5, l6], st, w, k, n) = WP (ML_law g) Q (1962, [l0, some (.ref p), l2, l3, l4, l5, l6], .ref p :: st, w, k, n) := alnR_e rfl (op_43 (bA_q qh_30 41 43 rfl)) rfl
theorem eL_law_1962 : WP (ML_law g) Q (1962, [some (.ref p), l1, l2, l3, l4, l5, l6], st, w, k, n) = WP (ML_law g) Q (1963, [some (.ref p), l1, l2, l3, l4, l5, l6], .ref p :: st, w, k, n) := alnR_e rfl (op_42 (bA_q qh_30 42 42 rfl)) rfl
theorem eL_law_1963 : WP (ML_law g) Q (1963, [l0, l1, l2, l3, some (.int a), l5, l6], st, w, k, n) = WP (ML_law g) Q (1965, [l0, l1, l2, l3, some (.int a), l5, l6], .int a :: st, w, k, n) := il_e rfl (op_21 (bA_q qh_30 43 21 rfl) (bA_q qh_30 44 4 rfl)) rfl
theorem eL_law_1965 : WP (ML_law g) Q (1965, [l0, l1, l2, l3, l4, l5, l6], st, w, k, n) = WP (ML_law g) Q (1966, [l0, l1, l2, l3, l4, l5, l6], .int 1 :: st, w, k, n) := ic_1 rfl (op_4 (bA_q qh_30 45 4 rfl))
theorem eL_law_1966 : WP (ML_law g) Q (1966, [l0, l1, l2, l3, l4, l5, l6], .int b :: .int a :: st, w, k, n) = WP (ML_law g) Q (1967, [l0, l1, l2, l3, l4, l5, l6], .int (a + b) :: st, w, k, n) := iadd_e rfl (op_96 (bA_q qh_30 46 96 rfl))
theorem eL_law_1967 : WP (ML_law g) Q (1967, [l0, l1, l2, l3, l4, l5, l6], .int a :: .ref p :: st, w, k, n) = gi (rd g w p) 1 fun N f => vp_in a N ∧ WP (ML_law g) Q (1968, [l0, l1, l2, l3, l4, l5, l6], .int (f a.toNatClampNeg) :: st, w, k, n) := iaload_e rfl (op_46 (bA_q qh_30 47 46 rfl))
theorem eL_law_1968 : WP (ML_law g) Q (1968, [some (.ref p), l1, l2, l3, l4, l5, l6], st, w, k, n) = WP (ML_law g) Q (1969, [some (.ref p), l1, l2, l3, l4, l5, l6], .ref p :: st, w, k, n) := alnR_e rfl (op_42 (bA_q qh_30 48 42 rfl)) rfl
theorem eL_law_1969 : WP (ML_law g) Q (1969, [l0, l1, l2, l3, some (.int a), l5, l6], st, w, k, n) = WP (ML_law g) Q (1971, [l0, l1, l2, l3, some (.int a), l5, l6], .int a :: st, w, k, n) := il_e rfl (op_21 (bA_q qh_30 49 21 rfl) (bA_q qh_30 50 4 rfl)) rfl
theorem eL_law_1971 : WP (ML_law g) Q (1971, [l0, l1, l2, l3, l4, l5, l6], st, w, k, n) = WP (ML_law g) Q (1972, [l0, l1, l2, l3, l4, l5, l6], .int 2 :: st, w, k, n) := ic_2 rfl (op_5 (bA_q qh_30 51 5 rfl))
theorem eL_law_1972 : WP (ML_law g) Q (1972, [l0, l1, l2, l3, l4, l5, l6], .int b :: .int a :: st, w, k, n) = WP (ML_law g) Q (1973, [l0, l1, l2, l3, l4, l5, l6], .int (a + b) :: st, w, k, n) := iadd_e rfl (op_96 (bA_q qh_30 52 96 rfl))
theorem eL_law_1973 : WP (ML_law g) Q (1973, [l0, l1, l2, l3, l4, l5, l6], .int a :: .ref p :: st, w, k, n) = gi (rd g w p) 1 fun N f => vp_in a N ∧ WP (ML_law g) Q (1974, [l0, l1, l2, l3, l4, l5, l6], .int (f a.toNatClampNeg) :: st, w, k, n) := iaload_e rfl (op_46 (bA_q qh_30 53 46 rfl))
theorem eL_law_1974 : WP (ML_law g) Q (1974, [l0, l1, l2, l3, l4, l5, l6], .int a :: st, w, k, n) = if a = 0 then WP (ML_law g) Q (1981, [l0, l1, l2, l3, l4, l5, l6], st, w, k, n) else WP (ML_law g) Q (1977, [l0, l1, l2, l3, l4, l5, l6], st, w, k, n) := ifc_e (a = 0) rfl (op_153 (bA_q qh_30 54 153 rfl) (bA_q qh_30 55 0 rfl) (bA_q qh_30 56 7 rfl) rfl) rfl (by decide)
theorem eL_law_1977 : WP (ML_law g) Q (1977, [l0, l1, l2, l3, l4, l5, l6], st, w, k, n) = WP (ML_law g) Q (1978, [l0, l1, l2, l3, l4, l5, l6], .int 1 :: st, w, k, n) := ic_1 rfl (op_4 (bA_q qh_30 57 4 rfl))
theorem eL_law_1978 : WP (ML_law g) Q (1978, [l0, l1, l2, l3, l4, l5, l6], st, w, k, n) = WP (ML_law g) Q (1982, [l0, l1, l2, l3, l4, l5, l6], st, w, k, n) := goto_e rfl (op_167 (bA_q qh_30 58 167 rfl) (bA_q qh_30 59 0 rfl) (bA_q qh_30 60 4 rfl) rfl) (by decide)
theorem eL_law_1981 : WP (ML_law g) Q (1981, [l0, l1, l2, l3, l4, l5, l6], st, w, k, n) = WP (ML_law g) Q (1982, [l0, l1, l2, l3, l4, l5, l6], .int 0 :: st, w, k, n) := ic_0 rfl (op_3 (bA_q qh_30 61 3 rfl))
theorem eL_law_1982 : WP (ML_law g) Q (1982, [l0, l1, l2, some (.ref p), l4, l5, l6], st, w, k, n) = WP (ML_law g) Q (1983, [l0, l1, l2, some (.ref p), l4, l5, l6], .ref p :: st, w, k, n) := alnR_e rfl (op_45 (bA_q qh_30 62 45 rfl)) rfl
theorem eL_law_1983RR {z0 : Nat} {z1 : Int32} {z2 : Int32} {z3 : Nat} : WP (ML_law g) Q (1983, [l0, l1, l2, l3, l4, l5, l6], .ref z3 :: .int z2 :: .int z1 :: .ref z0 :: st, w, k, n) = (wt st ≤ 8 ∧ k + 2 ≤ 58408 ∧ n + 12 ≤ 1451408 ∧ WP (ML_seek g) (kx (fun v w' => WP (ML_law g) Q (1986, [l0, l1, l2, l3, l4, l5, l6], v.toList ++ st, w', k + 2, n + 12)) (fun E w' => Q (.inr E) w')) (0, [some (.ref z0), some (.int z1), some (.int z2), some (.ref z3), none], [], w, 0, 0)) := csS0 (M := (ML_law g)) (mc := (fun _ _ => 2)) (ms := (fun _ _ => 12)) (As := [.ref z0, .int z1, .int z2, .ref z3]) (rest := st) (ML_seek g) rfl rfl rfl (op_184 (bA_q qh_30 63 184 rfl) (bA_q qh_30 64 1 rfl) (bA_q qh_30 65 43 rfl) rfl) rfl rfl rfl rfl rfl rfl rfl
theorem eL_law_1986 : WP (ML_law g) Q (1986, [l0, l1, l2, l3, l4, l5, l6], .int a :: st, w, k, n) = WP (ML_law g) Q (1988, [l0, l1, l2, l3, nl l4, some (.int a), l6], st, w, k, n) := is_e rfl (op_54 (bA_q qh_31 2 54 rfl) (bA_q qh_31 3 5 rfl)) rfl rfl
theorem eL_law_1988 : WP (ML_law g) Q (1988, [l0, l1, some (.ref p), l3, l4, l5, l6], st, w, k, n) = WP (ML_law g) Q (1989, [l0, l1, some (.ref p), l3, l4, l5, l6], .ref p :: st, w, k, n) := alnR_e rfl (op_44 (bA_q qh_31 4 44 rfl)) rfl
theorem eL_law_1989 : WP (ML_law g) Q (1989, [some (.ref p), l1, l2, l3, l4, l5, l6], st, w, k, n) = WP (ML_law g) Q (1990, [some (.ref p), l1, l2, l3, l4, l5, l6], .ref p :: st, w, k, n) := alnR_e rfl (op_42 (bA_q qh_31 5 42 rfl)) rfl
theorem eL_law_1990 : WP (ML_law g) Q (1990, [l0, l1, l2, l3, some (.int a), l5, l6], st, w, k, n) = WP (ML_law g) Q (1992, [l0, l1, l2, l3, some (.int a), l5, l6], .int a :: st, w, k, n) := il_e rfl (op_21 (bA_q qh_31 6 21 rfl) (bA_q qh_31 7 4 rfl)) rfl
theorem eL_law_1992 : WP (ML_law g) Q (1992, [l0, l1, l2, l3, l4, l5, l6], st, w, k, n) = WP (ML_law g) Q (1993, [l0, l1, l2, l3, l4, l5, l6], .int 1 :: st, w, k, n) := ic_1 rfl (op_4 (bA_q qh_31 8 4 rfl))
theorem eL_law_1993 : WP (ML_law g) Q (1993, [l0, l1, l2, l3, l4, l5, l6], .int b :: .int a :: st, w, k, n) = WP (ML_law g) Q (1994, [l0, l1, l2, l3, l4, l5, l6], .int (a + b) :: st, w, k, n) := iadd_e rfl (op_96 (bA_q qh_31 9 96 rfl))
theorem eL_law_1994 : WP (ML_law g) Q (1994, [l0, l1, l2, l3, l4, l5, l6], .int a :: .ref p :: st, w, k, n) = gi (rd g w p) 1 fun N f => vp_in a N ∧ WP (ML_law g) Q (1995, [l0, l1, l2, l3, l4, l5, l6], .int (f a.toNatClampNeg) :: st, w, k, n) := iaload_e rfl (op_46 (bA_q qh_31 10 46 rfl))
theorem eL_law_1995 : WP (ML_law g) Q (1995, [some (.ref p), l1, l2, l3, l4, l5, l6], st, w, k, n) = WP (ML_law g) Q (1996, [some (.ref p), l1, l2, l3, l4, l5, l6], .ref p :: st, w, k, n) := alnR_e rfl (op_42 (bA_q qh_31 11 42 rfl)) rfl
theorem eL_law_1996 : WP (ML_law g) Q (1996, [l0, l1, l2, l3, some (.int a), l5, l6], st, w, k, n) = WP (ML_law g) Q (1998, [l0, l1, l2, l3, some (.int a), l5, l6], .int a :: st, w, k, n) := il_e rfl (op_21 (bA_q qh_31 12 21 rfl) (bA_q qh_31 13 4 rfl)) rfl
theorem eL_law_1998 : WP (ML_law g) Q (1998, [l0, l1, l2, l3, l4, l5, l6], st, w, k, n) = WP (ML_law g) Q (1999, [l0, l1, l2, l3, l4, l5, l6], .int 2 :: st, w, k, n) := ic_2 rfl (op_5 (bA_q qh_31 14 5 rfl))
theorem eL_law_1999 : WP (ML_law g) Q (1999, [l0, l1, l2, l3, l4, l5, l6], .int b :: .int a :: st, w, k, n) = WP (ML_law g) Q (2000, [l0, l1, l2, l3, l4, l5, l6], .int (a + b) :: st, w, k, n) := iadd_e rfl (op_96 (bA_q qh_31 15 96 rfl))
theorem eL_law_2000 : WP (ML_law g) Q (2000, [l0, l1, l2, l3, l4, l5, l6], .int a :: .ref p :: st, w, k, n) = gi (rd g w p) 1 fun N f => vp_in a N ∧ WP (ML_law g) Q (2001, [l0, l1, l2, l3, l4, l5, l6], .int (f a.toNatClampNeg) :: st, w, k, n) := iaload_e rfl (op_46 (bA_q qh_31 16 46 rfl))
theorem eL_law_2001 : WP (ML_law g) Q (2001, [l0, l1, l2, l3, l4, l5, l6], .int a :: st, w, k, n) = if a = 0 then WP (ML_law g) Q (2008, [l0, l1, l2, l3, l4, l5, l6], st, w, k, n) else WP (ML_law g) Q (2004, [l0, l1, l2, l3, l4, l5, l6], st, w, k, n) := ifc_e (a = 0) rfl (op_153 (bA_q qh_31 17 153 rfl) (bA_q qh_31 18 0 rfl) (bA_q qh_31 19 7 rfl) rfl) rfl (by decide)
theorem eL_law_2004 : WP (ML_law g) Q (2004, [l0, l1, l2, l3, l4, l5, l6], st, w, k, n) = WP (ML_law g) Q (2005, [l0, l1, l2, l3, l4, l5, l6], .int 1 :: st, w, k, n) := ic_1 rfl (op_4 (bA_q qh_31 20 4 rfl))
theorem eL_law_2005 : WP (ML_law g) Q (2005, [l0, l1, l2, l3, l4, l5, l6], st, w, k, n) = WP (ML_law g) Q (2009, [l0, l1, l2, l3, l4, l5, l6], st, w, k, n) := goto_e rfl (op_167 (bA_q qh_31 21 167 rfl) (bA_q qh_31 22 0 rfl) (bA_q qh_31 23 4 rfl) rfl) (by decide)
theorem eL_law_2008 : WP (ML_law g) Q (2008, [l0, l1, l2, l3, l4, l5, l6], st, w, k, n) = WP (ML_law g) Q (2009, [l0, l1, l2, l3, l4, l5, l6], .int 0 :: st, w, k, n) := ic_0 rfl (op_3 (bA_q qh_31 24 3 rfl))
theorem eL_law_2009 {z0 : Int32} {z1 : Int32} : WP (ML_law g) Q (2009, [l0, l1, l2, l3, l4, l5, l6], .int z1 :: .int z0 :: .ref p :: st, w, k, n) = (go (rd g w p) 7 (fun _ => True) ∧ wt st ≤ 8 ∧ k + 0 ≤ 58408 ∧ n + 0 ≤ 1451408 ∧ WP (MX3_seek g) (kx (fun v w' => WP (ML_law g) Q (2012, [l0, l1, l2, l3, l4, l5, l6], v.toList ++ st, w', k + 0, n + 0)) (fun E w' => Q (.inr E) w')) (0, [some (.ref p), some (.int z0), some (.int z1)], [], w, 0, 0)) := csV0 (M := (ML_law g)) (mc := (fun _ _ => 0)) (ms := (fun _ _ => 0)) (As := [.int z0, .int z1]) (rest := st) (MX3_seek g) rfl rfl rfl (op_182 (bA_q qh_31 25 182 rfl) (bA_q qh_31 26 1 rfl) (bA_q qh_31 27 45 rfl) rfl) rfl rfl rfl rfl rfl rfl
theorem eL_law_2012 : WP (ML_law g) Q (2012, [l0, l1, l2, l3, l4, l5, l6], .int a :: st, w, k, n) = WP (ML_law g) Q (2014, [l0, l1, l2, l3, l4, nl l5, some (.int a)], st, w, k, n) := is_e rfl (op_54 (bA_q qh_31 28 54 rfl) (bA_q qh_31 29 6 rfl)) rfl rfl
theorem eL_law_2014 : WP (ML_law g) Q (2014, [l0, l1, l2, l3, l4, l5, l6], st, w, k, n) = WP (ML_law g) Q (2246, [l0, l1, l2, l3, l4, l5, l6], st, w, k, n) := goto_e rfl (op_167 (bA_q qh_31 30 167 rfl) (bA_q qh_31 31 0 rfl) (bA_q qh_31 32 232 rfl) rfl) (by decide)
theorem eL_law_2017 : WP (ML_law g) Q (2017, [l0, some (.ref p), l2, l3, l4, l5, l6], st, w, k, n) = WP (ML_law g) Q (2018, [l0, some (.ref p), l2, l3, l4, l5, l6], .ref p :: st, w, k, n) := alnR_e rfl (op_43 (bA_q qh_31 33 43 rfl)) rfl
theorem eL_law_2018 : WP (ML_law g) Q (2018, [some (.ref p), l1, l2, l3, l4, l5, l6], st, w, k, n) = WP (ML_law g) Q (2019, [some (.ref p), l1, l2, l3, l4, l5, l6], .ref p :: st, w, k, n) := alnR_e rfl (op_42 (bA_q qh_31 34 42 rfl)) rfl
theorem eL_law_2019 : WP (ML_law g) Q (2019, [l0, l1, l2, l3, some (.int a), l5, l6], st, w, k, n) = WP (ML_law g) Q (2021, [l0, l1, l2, l3, some (.int a), l5, l6], .int a :: st, w, k, n) := il_e rfl (op_21 (bA_q qh_31 35 21 rfl) (bA_q qh_31 36 4 rfl)) rfl
theorem eL_law_2021 : WP (ML_law g) Q (2021, [l0, l1, l2, l3, l4, l5, l6], st, w, k, n) = WP (ML_law g) Q (2022, [l0, l1, l2, l3, l4, l5, l6], .int 1 :: st, w, k, n) := ic_1 rfl (op_4 (bA_q qh_31 37 4 rfl))
theorem eL_law_2022 : WP (ML_law g) Q (2022, [l0, l1, l2, l3, l4, l5, l6], .int b :: .int a :: st, w, k, n) = WP (ML_law g) Q (2023, [l0, l1, l2, l3, l4, l5, l6], .int (a + b) :: st, w, k, n) := iadd_e rfl (op_96 (bA_q qh_31 38 96 rfl))
theorem eL_law_2023 : WP (ML_law g) Q (2023, [l0, l1, l2, l3, l4, l5, l6], .int a :: .ref p :: st, w, k, n) = gi (rd g w p) 1 fun N f => vp_in a N ∧ WP (ML_law g) Q (2024, [l0, l1, l2, l3, l4, l5, l6], .int (f a.toNatClampNeg) :: st, w, k, n) := iaload_e rfl (op_46 (bA_q qh_31 39 46 rfl))
theorem eL_law_2024 : WP (ML_law g) Q (2024, [l0, l1, l2, some (.ref p), l4, l5, l6], st, w, k, n) = WP (ML_law g) Q (2025, [l0, l1, l2, some (.ref p), l4, l5, l6], .ref p :: st, w, k, n) := alnR_e rfl (op_45 (bA_q qh_31 40 45 rfl)) rfl
theorem eL_law_2025RR {z0 : Nat} {z1 : Int32} {z2 : Nat} : WP (ML_law g) Q (2025, [l0, l1, l2, l3, l4, l5, l6], .ref z2 :: .int z1 :: .ref z0 :: st, w, k, n) = (wt st ≤ 8 ∧ k + 2 ≤ 58408 ∧ n + 12 ≤ 1451408 ∧ WP (ML_howOften g) (kx (fun v w' => WP (ML_law g) Q (2028, [l0, l1, l2, l3, l4, l5, l6], v.toList ++ st, w', k + 2, n + 12)) (fun E w' => Q (.inr E) w')) (0, [some (.ref z0), some (.int z1), some (.ref z2), none], [], w, 0, 0)) := csS0 (M := (ML_law g)) (mc := (fun _ _ => 2)) (ms := (fun _ _ => 12)) (As := [.ref z0, .int z1, .ref z2]) (rest := st) (ML_howOften g) rfl rfl rfl (op_184 (bA_q qh_31 41 184 rfl) (bA_q qh_31 42 1 rfl) (bA_q qh_31 43 46 rfl) rfl) rfl rfl rfl rfl rfl rfl rfl
theorem eL_law_2028 : WP (ML_law g) Q (2028, [l0, l1, l2, l3, l4, l5, l6], .int a :: st, w, k, n) = WP (ML_law g) Q (2030, [l0, l1, l2, l3, nl l4, some (.int a), l6], st, w, k, n) := is_e rfl (op_54 (bA_q qh_31 44 54 rfl) (bA_q qh_31 45 5 rfl)) rfl rfl
theorem eL_law_2030 : WP (ML_law g) Q (2030, [l0, l1, some (.ref p), l3, l4, l5, l6], st, w, k, n) = WP (ML_law g) Q (2031, [l0, l1, some (.ref p), l3, l4, l5, l6], .ref p :: st, w, k, n) := alnR_e rfl (op_44 (bA_q qh_31 46 44 rfl)) rfl
theorem eL_law_2031 : WP (ML_law g) Q (2031, [some (.ref p), l1, l2, l3, l4, l5, l6], st, w, k, n) = WP (ML_law g) Q (2032, [some (.ref p), l1, l2, l3, l4, l5, l6], .ref p :: st, w, k, n) := alnR_e rfl (op_42 (bA_q qh_31 47 42 rfl)) rfl
theorem eL_law_2032 : WP (ML_law g) Q (2032, [l0, l1, l2, l3, some (.int a), l5, l6], st, w, k, n) = WP (ML_law g) Q (2034, [l0, l1, l2, l3, some (.int a), l5, l6], .int a :: st, w, k, n) := il_e rfl (op_21 (bA_q qh_31 48 21 rfl) (bA_q qh_31 49 4 rfl)) rfl
theorem eL_law_2034 : WP (ML_law g) Q (2034, [l0, l1, l2, l3, l4, l5, l6], st, w, k, n) = WP (ML_law g) Q (2035, [l0, l1, l2, l3, l4, l5, l6], .int 1 :: st, w, k, n) := ic_1 rfl (op_4 (bA_q qh_31 50 4 rfl))
theorem eL_law_2035 : WP (ML_law g) Q (2035, [l0, l1, l2, l3, l4, l5, l6], .int b :: .int a :: st, w, k, n) = WP (ML_law g) Q (2036, [l0, l1, l2, l3, l4, l5, l6], .int (a + b) :: st, w, k, n) := iadd_e rfl (op_96 (bA_q qh_31 51 96 rfl))
theorem eL_law_2036 : WP (ML_law g) Q (2036, [l0, l1, l2, l3, l4, l5, l6], .int a :: .ref p :: st, w, k, n) = gi (rd g w p) 1 fun N f => vp_in a N ∧ WP (ML_law g) Q (2037, [l0, l1, l2, l3, l4, l5, l6], .int (f a.toNatClampNeg) :: st, w, k, n) := iaload_e rfl (op_46 (bA_q qh_31 52 46 rfl))
theorem eL_law_2037 {z0 : Int32} : WP (ML_law g) Q (2037, [l0, l1, l2, l3, l4, l5, l6], .int z0 :: .ref p :: st, w, k, n) = (go (rd g w p) 7 (fun _ => True) ∧ wt st ≤ 8 ∧ k + 1 ≤ 58408 ∧ n + 4 ≤ 1451408 ∧ WP (MX3_howOften g) (kx (fun v w' => WP (ML_law g) Q (2040, [l0, l1, l2, l3, l4, l5, l6], v.toList ++ st, w', k + 1, n + 4)) (fun E w' => Q (.inr E) w')) (0, [some (.ref p), some (.int z0)], [], w, 0, 0)) := csV0 (M := (ML_law g)) (mc := (fun _ _ => 1)) (ms := (fun _ _ => 4)) (As := [.int z0]) (rest := st) (MX3_howOften g) rfl rfl rfl (op_182 (bA_q qh_31 53 182 rfl) (bA_q qh_31 54 1 rfl) (bA_q qh_31 55 48 rfl) rfl) rfl rfl rfl rfl rfl rfl
theorem eL_law_2040 : WP (ML_law g) Q (2040, [l0, l1, l2, l3, l4, l5, l6], .int a :: st, w, k, n) = WP (ML_law g) Q (2042, [l0, l1, l2, l3, l4, nl l5, some (.int a)], st, w, k, n) := is_e rfl (op_54 (bA_q qh_31 56 54 rfl) (bA_q qh_31 57 6 rfl)) rfl rfl
theorem eL_law_2042 : WP (ML_law g) Q (2042, [l0, l1, l2, l3, l4, l5, l6], st, w, k, n) = WP (ML_law g) Q (2246, [l0, l1, l2, l3, l4, l5, l6], st, w, k, n) := goto_e rfl (op_167 (bA_q qh_31 58 167 rfl) (bA_q qh_31 59 0 rfl) (bA_q qh_31 60 204 rfl) rfl) (by decide)
theorem eL_law_2045 : WP (ML_law g) Q (2045, [l0, some (.ref p), l2, l3, l4, l5, l6], st, w, k, n) = WP (ML_law g) Q (2046, [l0, some (.ref p), l2, l3, l4, l5, l6], .ref p :: st, w, k, n) := alnR_e rfl (op_43 (bA_q qh_31 61 43 rfl)) rfl
theorem eL_law_2046 : WP (ML_law g) Q (2046, [some (.ref p), l1, l2, l3, l4, l5, l6], st, w, k, n) = WP (ML_law g) Q (2047, [some (.ref p), l1, l2, l3, l4, l5, l6], .ref p :: st, w, k, n) := alnR_e rfl (op_42 (bA_q qh_31 62 42 rfl)) rfl
theorem eL_law_2047 : WP (ML_law g) Q (2047, [l0, l1, l2, l3, some (.int a), l5, l6], st, w, k, n) = WP (ML_law g) Q (2049, [l0, l1, l2, l3, some (.int a), l5, l6], .int a :: st, w, k, n) := il_e rfl (op_21 (bA_q qh_31 63 21 rfl) (bA_q qh_31 64 4 rfl)) rfl
theorem eL_law_2049 : WP (ML_law g) Q (2049, [l0, l1, l2, l3, l4, l5, l6], st, w, k, n) = WP (ML_law g) Q (2050, [l0, l1, l2, l3, l4, l5, l6], .int 1 :: st, w, k, n) := ic_1 rfl (op_4 (bA_q qh_32 1 4 rfl))
theorem eL_law_2050 : WP (ML_law g) Q (2050, [l0, l1, l2, l3, l4, l5, l6], .int b :: .int a :: st, w, k, n) = WP (ML_law g) Q (2051, [l0, l1, l2, l3, l4, l5, l6], .int (a + b) :: st, w, k, n) := iadd_e rfl (op_96 (bA_q qh_32 2 96 rfl))
theorem eL_law_2051 : WP (ML_law g) Q (2051, [l0, l1, l2, l3, l4, l5, l6], .int a :: .ref p :: st, w, k, n) = gi (rd g w p) 1 fun N f => vp_in a N ∧ WP (ML_law g) Q (2052, [l0, l1, l2, l3, l4, l5, l6], .int (f a.toNatClampNeg) :: st, w, k, n) := iaload_e rfl (op_46 (bA_q qh_32 3 46 rfl))
theorem eL_law_2052 : WP (ML_law g) Q (2052, [l0, l1, l2, some (.ref p), l4, l5, l6], st, w, k, n) = WP (ML_law g) Q (2053, [l0, l1, l2, some (.ref p), l4, l5, l6], .ref p :: st, w, k, n) := alnR_e rfl (op_45 (bA_q qh_32 4 45 rfl)) rfl
theorem eL_law_2053RR {z0 : Nat} {z1 : Int32} {z2 : Nat} : WP (ML_law g) Q (2053, [l0, l1, l2, l3, l4, l5, l6], .ref z2 :: .int z1 :: .ref z0 :: st, w, k, n) = (wt st ≤ 8 ∧ k + 2 ≤ 58408 ∧ n + 12 ≤ 1451408 ∧ WP (ML_lift g) (kx (fun v w' => WP (ML_law g) Q (2056, [l0, l1, l2, l3, l4, l5, l6], v.toList ++ st, w', k + 2, n + 12)) (fun E w' => Q (.inr E) w')) (0, [some (.ref z0), some (.int z1), some (.ref z2), none], [], w, 0, 0)) := csS0 (M := (ML_law g)) (mc := (fun _ _ => 2)) (ms := (fun _ _ => 12)) (As := [.ref z0, .int z1, .ref z2]) (rest := st) (ML_lift g) rfl rfl rfl (op_184 (bA_q qh_32 5 184 rfl) (bA_q qh_32 6 1 rfl) (bA_q qh_32 7 49 rfl) rfl) rfl rfl rfl rfl rfl rfl rfl
theorem eL_law_2056 : WP (ML_law g) Q (2056, [l0, l1, l2, l3, l4, l5, l6], .int a :: st, w, k, n) = WP (ML_law g) Q (2058, [l0, l1, l2, l3, nl l4, some (.int a), l6], st, w, k, n) := is_e rfl (op_54 (bA_q qh_32 8 54 rfl) (bA_q qh_32 9 5 rfl)) rfl rfl
theorem eL_law_2058 : WP (ML_law g) Q (2058, [l0, l1, some (.ref p), l3, l4, l5, l6], st, w, k, n) = WP (ML_law g) Q (2059, [l0, l1, some (.ref p), l3, l4, l5, l6], .ref p :: st, w, k, n) := alnR_e rfl (op_44 (bA_q qh_32 10 44 rfl)) rfl
theorem eL_law_2059 : WP (ML_law g) Q (2059, [some (.ref p), l1, l2, l3, l4, l5, l6], st, w, k, n) = WP (ML_law g) Q (2060, [some (.ref p), l1, l2, l3, l4, l5, l6], .ref p :: st, w, k, n) := alnR_e rfl (op_42 (bA_q qh_32 11 42 rfl)) rfl
theorem eL_law_2060 : WP (ML_law g) Q (2060, [l0, l1, l2, l3, some (.int a), l5, l6], st, w, k, n) = WP (ML_law g) Q (2062, [l0, l1, l2, l3, some (.int a), l5, l6], .int a :: st, w, k, n) := il_e rfl (op_21 (bA_q qh_32 12 21 rfl) (bA_q qh_32 13 4 rfl)) rfl
theorem eL_law_2062 : WP (ML_law g) Q (2062, [l0, l1, l2, l3, l4, l5, l6], st, w, k, n) = WP (ML_law g) Q (2063, [l0, l1, l2, l3, l4, l5, l6], .int 1 :: st, w, k, n) := ic_1 rfl (op_4 (bA_q qh_32 14 4 rfl))
theorem eL_law_2063 : WP (ML_law g) Q (2063, [l0, l1, l2, l3, l4, l5, l6], .int b :: .int a :: st, w, k, n) = WP (ML_law g) Q (2064, [l0, l1, l2, l3, l4, l5, l6], .int (a + b) :: st, w, k, n) := iadd_e rfl (op_96 (bA_q qh_32 15 96 rfl))
theorem eL_law_2064 : WP (ML_law g) Q (2064, [l0, l1, l2, l3, l4, l5, l6], .int a :: .ref p :: st, w, k, n) = gi (rd g w p) 1 fun N f => vp_in a N ∧ WP (ML_law g) Q (2065, [l0, l1, l2, l3, l4, l5, l6], .int (f a.toNatClampNeg) :: st, w, k, n) := iaload_e rfl (op_46 (bA_q qh_32 16 46 rfl))
theorem eL_law_2065 {z0 : Int32} : WP (ML_law g) Q (2065, [l0, l1, l2, l3, l4, l5, l6], .int z0 :: .ref p :: st, w, k, n) = (go (rd g w p) 7 (fun _ => True) ∧ wt st ≤ 8 ∧ k + 0 ≤ 58408 ∧ n + 0 ≤ 1451408 ∧ WP (MX3_lift g) (kx (fun v w' => WP (ML_law g) Q (2068, [l0, l1, l2, l3, l4, l5, l6], v.toList ++ st, w', k + 0, n + 0)) (fun E w' => Q (.inr E) w')) (0, [some (.ref p), some (.int z0), none], [], w, 0, 0)) := csV0 (M := (ML_law g)) (mc := (fun _ _ => 0)) (ms := (fun _ _ => 0)) (As := [.int z0]) (rest := st) (MX3_lift g) rfl rfl rfl (op_182 (bA_q qh_32 17 182 rfl) (bA_q qh_32 18 1 rfl) (bA_q qh_32 19 51 rfl) rfl) rfl rfl rfl rfl rfl rfl
theorem eL_law_2068 : WP (ML_law g) Q (2068, [l0, l1, l2, l3, l4, l5, l6], .int a :: st, w, k, n) = WP (ML_law g) Q (2070, [l0, l1, l2, l3, l4, nl l5, some (.int a)], st, w, k, n) := is_e rfl (op_54 (bA_q qh_32 20 54 rfl) (bA_q qh_32 21 6 rfl)) rfl rfl
theorem eL_law_2070 : WP (ML_law g) Q (2070, [l0, l1, l2, l3, l4, l5, l6], st, w, k, n) = WP (ML_law g) Q (2246, [l0, l1, l2, l3, l4, l5, l6], st, w, k, n) := goto_e rfl (op_167 (bA_q qh_32 22 167 rfl) (bA_q qh_32 23 0 rfl) (bA_q qh_32 24 176 rfl) rfl) (by decide)
theorem eL_law_2073 : WP (ML_law g) Q (2073, [l0, some (.ref p), l2, l3, l4, l5, l6], st, w, k, n) = WP (ML_law g) Q (2074, [l0, some (.ref p), l2, l3, l4, l5, l6], .ref p :: st, w, k, n) := alnR_e rfl (op_43 (bA_q qh_32 25 43 rfl)) rfl
theorem eL_law_2074 : WP (ML_law g) Q (2074, [some (.ref p), l1, l2, l3, l4, l5, l6], st, w, k, n) = WP (ML_law g) Q (2075, [some (.ref p), l1, l2, l3, l4, l5, l6], .ref p :: st, w, k, n) := alnR_e rfl (op_42 (bA_q qh_32 26 42 rfl)) rfl
theorem eL_law_2075 : WP (ML_law g) Q (2075, [l0, l1, l2, l3, some (.int a), l5, l6], st, w, k, n) = WP (ML_law g) Q (2077, [l0, l1, l2, l3, some (.int a), l5, l6], .int a :: st, w, k, n) := il_e rfl (op_21 (bA_q qh_32 27 21 rfl) (bA_q qh_32 28 4 rfl)) rfl
theorem eL_law_2077 : WP (ML_law g) Q (2077, [l0, l1, l2, l3, l4, l5, l6], st, w, k, n) = WP (ML_law g) Q (2078, [l0, l1, l2, l3, l4, l5, l6], .int 1 :: st, w, k, n) := ic_1 rfl (op_4 (bA_q qh_32 29 4 rfl))
theorem eL_law_2078 : WP (ML_law g) Q (2078, [l0, l1, l2, l3, l4, l5, l6], .int b :: .int a :: st, w, k, n) = WP (ML_law g) Q (2079, [l0, l1, l2, l3, l4, l5, l6], .int (a + b) :: st, w, k, n) := iadd_e rfl (op_96 (bA_q qh_32 30 96 rfl))
theorem eL_law_2079 : WP (ML_law g) Q (2079, [l0, l1, l2, l3, l4, l5, l6], .int a :: .ref p :: st, w, k, n) = gi (rd g w p) 1 fun N f => vp_in a N ∧ WP (ML_law g) Q (2080, [l0, l1, l2, l3, l4, l5, l6], .int (f a.toNatClampNeg) :: st, w, k, n) := iaload_e rfl (op_46 (bA_q qh_32 31 46 rfl))
theorem eL_law_2080 : WP (ML_law g) Q (2080, [some (.ref p), l1, l2, l3, l4, l5, l6], st, w, k, n) = WP (ML_law g) Q (2081, [some (.ref p), l1, l2, l3, l4, l5, l6], .ref p :: st, w, k, n) := alnR_e rfl (op_42 (bA_q qh_32 32 42 rfl)) rfl
theorem eL_law_2081 : WP (ML_law g) Q (2081, [l0, l1, l2, l3, some (.int a), l5, l6], st, w, k, n) = WP (ML_law g) Q (2083, [l0, l1, l2, l3, some (.int a), l5, l6], .int a :: st, w, k, n) := il_e rfl (op_21 (bA_q qh_32 33 21 rfl) (bA_q qh_32 34 4 rfl)) rfl
theorem eL_law_2083 : WP (ML_law g) Q (2083, [l0, l1, l2, l3, l4, l5, l6], st, w, k, n) = WP (ML_law g) Q (2084, [l0, l1, l2, l3, l4, l5, l6], .int 2 :: st, w, k, n) := ic_2 rfl (op_5 (bA_q qh_32 35 5 rfl))
theorem eL_law_2084 : WP (ML_law g) Q (2084, [l0, l1, l2, l3, l4, l5, l6], .int b :: .int a :: st, w, k, n) = WP (ML_law g) Q (2085, [l0, l1, l2, l3, l4, l5, l6], .int (a + b) :: st, w, k, n) := iadd_e rfl (op_96 (bA_q qh_32 36 96 rfl))
theorem eL_law_2085 : WP (ML_law g) Q (2085, [l0, l1, l2, l3, l4, l5, l6], .int a :: .ref p :: st, w, k, n) = gi (rd g w p) 1 fun N f => vp_in a N ∧ WP (ML_law g) Q (2086, [l0, l1, l2, l3, l4, l5, l6], .int (f a.toNatClampNeg) :: st, w, k, n) := iaload_e rfl (op_46 (bA_q qh_32 37 46 rfl))
theorem eL_law_2086 : WP (ML_law g) Q (2086, [l0, l1, l2, some (.ref p), l4, l5, l6], st, w, k, n) = WP (ML_law g) Q (2087, [l0, l1, l2, some (.ref p), l4, l5, l6], .ref p :: st, w, k, n) := alnR_e rfl (op_45 (bA_q qh_32 38 45 rfl)) rfl
theorem eL_law_2087RR {z0 : Nat} {z1 : Int32} {z2 : Int32} {z3 : Nat} : WP (ML_law g) Q (2087, [l0, l1, l2, l3, l4, l5, l6], .ref z3 :: .int z2 :: .int z1 :: .ref z0 :: st, w, k, n) = (wt st ≤ 8 ∧ k + 2 ≤ 58408 ∧ n + 12 ≤ 1451408 ∧ WP (ML_pick g) (kx (fun v w' => WP (ML_law g) Q (2090, [l0, l1, l2, l3, l4, l5, l6], v.toList ++ st, w', k + 2, n + 12)) (fun E w' => Q (.inr E) w')) (0, [some (.ref z0), some (.int z1), some (.int z2), some (.ref z3), none], [], w, 0, 0)) := csS0 (M := (ML_law g)) (mc := (fun _ _ => 2)) (ms := (fun _ _ => 12)) (As := [.ref z0, .int z1, .int z2, .ref z3]) (rest := st) (ML_pick g) rfl rfl rfl (op_184 (bA_q qh_32 39 184 rfl) (bA_q qh_32 40 1 rfl) (bA_q qh_32 41 52 rfl) rfl) rfl rfl rfl rfl rfl rfl rfl
theorem eL_law_2090 : WP (ML_law g) Q (2090, [l0, l1, l2, l3, l4, l5, l6], .int a :: st, w, k, n) = WP (ML_law g) Q (2092, [l0, l1, l2, l3, nl l4, some (.int a), l6], st, w, k, n) := is_e rfl (op_54 (bA_q qh_32 42 54 rfl) (bA_q qh_32 43 5 rfl)) rfl rfl
theorem eL_law_2092 : WP (ML_law g) Q (2092, [l0, l1, some (.ref p), l3, l4, l5, l6], st, w, k, n) = WP (ML_law g) Q (2093, [l0, l1, some (.ref p), l3, l4, l5, l6], .ref p :: st, w, k, n) := alnR_e rfl (op_44 (bA_q qh_32 44 44 rfl)) rfl
theorem eL_law_2093 : WP (ML_law g) Q (2093, [some (.ref p), l1, l2, l3, l4, l5, l6], st, w, k, n) = WP (ML_law g) Q (2094, [some (.ref p), l1, l2, l3, l4, l5, l6], .ref p :: st, w, k, n) := alnR_e rfl (op_42 (bA_q qh_32 45 42 rfl)) rfl
theorem eL_law_2094 : WP (ML_law g) Q (2094, [l0, l1, l2, l3, some (.int a), l5, l6], st, w, k, n) = WP (ML_law g) Q (2096, [l0, l1, l2, l3, some (.int a), l5, l6], .int a :: st, w, k, n) := il_e rfl (op_21 (bA_q qh_32 46 21 rfl) (bA_q qh_32 47 4 rfl)) rfl
theorem eL_law_2096 : WP (ML_law g) Q (2096, [l0, l1, l2, l3, l4, l5, l6], st, w, k, n) = WP (ML_law g) Q (2097, [l0, l1, l2, l3, l4, l5, l6], .int 1 :: st, w, k, n) := ic_1 rfl (op_4 (bA_q qh_32 48 4 rfl))
theorem eL_law_2097 : WP (ML_law g) Q (2097, [l0, l1, l2, l3, l4, l5, l6], .int b :: .int a :: st, w, k, n) = WP (ML_law g) Q (2098, [l0, l1, l2, l3, l4, l5, l6], .int (a + b) :: st, w, k, n) := iadd_e rfl (op_96 (bA_q qh_32 49 96 rfl))
theorem eL_law_2098 : WP (ML_law g) Q (2098, [l0, l1, l2, l3, l4, l5, l6], .int a :: .ref p :: st, w, k, n) = gi (rd g w p) 1 fun N f => vp_in a N ∧ WP (ML_law g) Q (2099, [l0, l1, l2, l3, l4, l5, l6], .int (f a.toNatClampNeg) :: st, w, k, n) := iaload_e rfl (op_46 (bA_q qh_32 50 46 rfl))
theorem eL_law_2099 : WP (ML_law g) Q (2099, [some (.ref p), l1, l2, l3, l4, l5, l6], st, w, k, n) = WP (ML_law g) Q (2100, [some (.ref p), l1, l2, l3, l4, l5, l6], .ref p :: st, w, k, n) := alnR_e rfl (op_42 (bA_q qh_32 51 42 rfl)) rfl
theorem eL_law_2100 : WP (ML_law g) Q (2100, [l0, l1, l2, l3, some (.int a), l5, l6], st, w, k, n) = WP (ML_law g) Q (2102, [l0, l1, l2, l3, some (.int a), l5, l6], .int a :: st, w, k, n) := il_e rfl (op_21 (bA_q qh_32 52 21 rfl) (bA_q qh_32 53 4 rfl)) rfl
theorem eL_law_2102 : WP (ML_law g) Q (2102, [l0, l1, l2, l3, l4, l5, l6], st, w, k, n) = WP (ML_law g) Q (2103, [l0, l1, l2, l3, l4, l5, l6], .int 2 :: st, w, k, n) := ic_2 rfl (op_5 (bA_q qh_32 54 5 rfl))
theorem eL_law_2103 : WP (ML_law g) Q (2103, [l0, l1, l2, l3, l4, l5, l6], .int b :: .int a :: st, w, k, n) = WP (ML_law g) Q (2104, [l0, l1, l2, l3, l4, l5, l6], .int (a + b) :: st, w, k, n) := iadd_e rfl (op_96 (bA_q qh_32 55 96 rfl))
theorem eL_law_2104 : WP (ML_law g) Q (2104, [l0, l1, l2, l3, l4, l5, l6], .int a :: .ref p :: st, w, k, n) = gi (rd g w p) 1 fun N f => vp_in a N ∧ WP (ML_law g) Q (2105, [l0, l1, l2, l3, l4, l5, l6], .int (f a.toNatClampNeg) :: st, w, k, n) := iaload_e rfl (op_46 (bA_q qh_32 56 46 rfl))
theorem eL_law_2105 {z0 : Int32} {z1 : Int32} : WP (ML_law g) Q (2105, [l0, l1, l2, l3, l4, l5, l6], .int z1 :: .int z0 :: .ref p :: st, w, k, n) = (go (rd g w p) 7 (fun _ => True) ∧ wt st ≤ 8 ∧ k + 0 ≤ 58408 ∧ n + 0 ≤ 1451408 ∧ WP (MX3_pick g) (kx (fun v w' => WP (ML_law g) Q (2108, [l0, l1, l2, l3, l4, l5, l6], v.toList ++ st, w', k + 0, n + 0)) (fun E w' => Q (.inr E) w')) (0, [some (.ref p), some (.int z0), some (.int z1), none], [], w, 0, 0)) := csV0 (M := (ML_law g)) (mc := (fun _ _ => 0)) (ms := (fun _ _ => 0)) (As := [.int z0, .int z1]) (rest := st) (MX3_pick g) rfl rfl rfl (op_182 (bA_q qh_32 57 182 rfl) (bA_q qh_32 58 1 rfl) (bA_q qh_32 59 54 rfl) rfl) rfl rfl rfl rfl rfl rfl
theorem eL_law_2108 : WP (ML_law g) Q (2108, [l0, l1, l2, l3, l4, l5, l6], .int a :: st, w, k, n) = WP (ML_law g) Q (2110, [l0, l1, l2, l3, l4, nl l5, some (.int a)], st, w, k, n) := is_e rfl (op_54 (bA_q qh_32 60 54 rfl) (bA_q qh_32 61 6 rfl)) rfl rfl
theorem eL_law_2110 : WP (ML_law g) Q (2110, [l0, l1, l2, l3, l4, l5, l6], st, w, k, n) = WP (ML_law g) Q (2246, [l0, l1, l2, l3, l4, l5, l6], st, w, k, n) := goto_e rfl (op_167 (bA_q qh_32 62 167 rfl) (bA_q qh_32 63 0 rfl) (bA_q qh_32 64 136 rfl) rfl) (by decide)
theorem eL_law_2113 : WP (ML_law g) Q (2113, [l0, some (.ref p), l2, l3, l4, l5, l6], st, w, k, n) = WP (ML_law g) Q (2114, [l0, some (.ref p), l2, l3, l4, l5, l6], .ref p :: st, w, k, n) := alnR_e rfl (op_43 (bA_q qh_33 1 43 rfl)) rfl
theorem eL_law_2114  : WP (ML_law g) Q (2114, [l0, l1, l2, l3, l4, l5, l6], .ref p :: st, w, k, n) = (go (rd g w p) 5 (fun _ => True) ∧ wt st ≤ 8 ∧ k + 0 ≤ 58408 ∧ n + 0 ≤ 1451408 ∧ WP (MX1_turn g) (kx (fun v w' => WP (ML_law g) Q (2117, [l0, l1, l2, l3, l4, l5, l6], v.toList ++ st, w', k + 0, n + 0)) (fun E w' => Q (.inr E) w')) (0, [some (.ref p), none, none, none], [], w, 0, 0)) := csV0 (M := (ML_law g)) (mc := (fun _ _ => 0)) (ms := (fun _ _ => 0)) (As := []) (rest := st) (MX1_turn g) rfl rfl rfl (op_182 (bA_q qh_33 2 182 rfl) (bA_q qh_33 3 1 rfl) (bA_q qh_33 4 55 rfl) rfl) rfl rfl rfl rfl rfl rfl
theorem eL_law_2117 : WP (ML_law g) Q (2117, [l0, l1, l2, l3, l4, l5, l6], .int a :: st, w, k, n) = WP (ML_law g) Q (2118, [l0, l1, l2, l3, l4, l5, l6], st, w, k, n) := popI_e rfl (op_87 (bA_q qh_33 5 87 rfl))
theorem eL_law_2118 : WP (ML_law g) Q (2118, [l0, l1, some (.ref p), l3, l4, l5, l6], st, w, k, n) = WP (ML_law g) Q (2119, [l0, l1, some (.ref p), l3, l4, l5, l6], .ref p :: st, w, k, n) := alnR_e rfl (op_44 (bA_q qh_33 6 44 rfl)) rfl
theorem eL_law_2119  : WP (ML_law g) Q (2119, [l0, l1, l2, l3, l4, l5, l6], .ref p :: st, w, k, n) = (go (rd g w p) 7 (fun _ => True) ∧ wt st ≤ 8 ∧ k + 14 ≤ 58408 ∧ n + 187 ≤ 1451408 ∧ WP (MX3_turn g) (kx (fun v w' => WP (ML_law g) Q (2122, [l0, l1, l2, l3, l4, l5, l6], v.toList ++ st, w', k + 14, n + 187)) (fun E w' => Q (.inr E) w')) (0, [some (.ref p), none, none, none], [], w, 0, 0)) := csV0 (M := (ML_law g)) (mc := (fun _ _ => 14)) (ms := (fun _ _ => 187)) (As := []) (rest := st) (MX3_turn g) rfl rfl rfl (op_182 (bA_q qh_33 7 182 rfl) (bA_q qh_33 8 1 rfl) (bA_q qh_33 9 58 rfl) rfl) rfl rfl rfl rfl rfl rfl
theorem eL_law_2122 : WP (ML_law g) Q (2122, [l0, l1, l2, l3, l4, l5, l6], .int a :: st, w, k, n) = WP (ML_law g) Q (2123, [l0, l1, l2, l3, l4, l5, l6], st, w, k, n) := popI_e rfl (op_87 (bA_q qh_33 10 87 rfl))
theorem eL_law_2123 : WP (ML_law g) Q (2123, [l0, l1, l2, l3, l4, l5, l6], st, w, k, n) = WP (ML_law g) Q (2246, [l0, l1, l2, l3, l4, l5, l6], st, w, k, n) := goto_e rfl (op_167 (bA_q qh_33 11 167 rfl) (bA_q qh_33 12 0 rfl) (bA_q qh_33 13 123 rfl) rfl) (by decide)
theorem eL_law_2126 : WP (ML_law g) Q (2126, [l0, some (.ref p), l2, l3, l4, l5, l6], st, w, k, n) = WP (ML_law g) Q (2127, [l0, some (.ref p), l2, l3, l4, l5, l6], .ref p :: st, w, k, n) := alnR_e rfl (op_43 (bA_q qh_33 14 43 rfl)) rfl
theorem eL_law_2127  : WP (ML_law g) Q (2127, [l0, l1, l2, l3, l4, l5, l6], .ref p :: st, w, k, n) = (go (rd g w p) 5 (fun _ => True) ∧ wt st ≤ 8 ∧ k + 0 ≤ 58408 ∧ n + 0 ≤ 1451408 ∧ WP (MX1_sweep g) (kx (fun v w' => WP (ML_law g) Q (2130, [l0, l1, l2, l3, l4, l5, l6], v.toList ++ st, w', k + 0, n + 0)) (fun E w' => Q (.inr E) w')) (0, [some (.ref p), none, none], [], w, 0, 0)) := csV0 (M := (ML_law g)) (mc := (fun _ _ => 0)) (ms := (fun _ _ => 0)) (As := []) (rest := st) (MX1_sweep g) rfl rfl rfl (op_182 (bA_q qh_33 15 182 rfl) (bA_q qh_33 16 1 rfl) (bA_q qh_33 17 59 rfl) rfl) rfl rfl rfl rfl rfl rfl
theorem eL_law_2130 : WP (ML_law g) Q (2130, [l0, l1, l2, l3, l4, l5, l6], .int a :: st, w, k, n) = WP (ML_law g) Q (2131, [l0, l1, l2, l3, l4, l5, l6], st, w, k, n) := popI_e rfl (op_87 (bA_q qh_33 18 87 rfl))
theorem eL_law_2131 : WP (ML_law g) Q (2131, [l0, l1, some (.ref p), l3, l4, l5, l6], st, w, k, n) = WP (ML_law g) Q (2132, [l0, l1, some (.ref p), l3, l4, l5, l6], .ref p :: st, w, k, n) := alnR_e rfl (op_44 (bA_q qh_33 19 44 rfl)) rfl
theorem eL_law_2132  : WP (ML_law g) Q (2132, [l0, l1, l2, l3, l4, l5, l6], .ref p :: st, w, k, n) = (go (rd g w p) 7 (fun _ => True) ∧ wt st ≤ 8 ∧ k + 1 ≤ 58408 ∧ n + 3 ≤ 1451408 ∧ WP (MX3_sweep g) (kx (fun v w' => WP (ML_law g) Q (2135, [l0, l1, l2, l3, l4, l5, l6], v.toList ++ st, w', k + 1, n + 3)) (fun E w' => Q (.inr E) w')) (0, [some (.ref p), none], [], w, 0, 0)) := csV0 (M := (ML_law g)) (mc := (fun _ _ => 1)) (ms := (fun _ _ => 3)) (As := []) (rest := st) (MX3_sweep g) rfl rfl rfl (op_182 (bA_q qh_33 20 182 rfl) (bA_q qh_33 21 1 rfl) (bA_q qh_33 22 62 rfl) rfl) rfl rfl rfl rfl rfl rfl
theorem eL_law_2135 : WP (ML_law g) Q (2135, [l0, l1, l2, l3, l4, l5, l6], .int a :: st, w, k, n) = WP (ML_law g) Q (2136, [l0, l1, l2, l3, l4, l5, l6], st, w, k, n) := popI_e rfl (op_87 (bA_q qh_33 23 87 rfl))
theorem eL_law_2136 : WP (ML_law g) Q (2136, [l0, l1, l2, l3, l4, l5, l6], st, w, k, n) = WP (ML_law g) Q (2246, [l0, l1, l2, l3, l4, l5, l6], st, w, k, n) := goto_e rfl (op_167 (bA_q qh_33 24 167 rfl) (bA_q qh_33 25 0 rfl) (bA_q qh_33 26 110 rfl) rfl) (by decide)
theorem eL_law_2139 : WP (ML_law g) Q (2139, [l0, some (.ref p), l2, l3, l4, l5, l6], st, w, k, n) = WP (ML_law g) Q (2140, [l0, some (.ref p), l2, l3, l4, l5, l6], .ref p :: st, w, k, n) := alnR_e rfl (op_43 (bA_q qh_33 27 43 rfl)) rfl
theorem eL_law_2140 : WP (ML_law g) Q (2140, [some (.ref p), l1, l2, l3, l4, l5, l6], st, w, k, n) = WP (ML_law g) Q (2141, [some (.ref p), l1, l2, l3, l4, l5, l6], .ref p :: st, w, k, n) := alnR_e rfl (op_42 (bA_q qh_33 28 42 rfl)) rfl
theorem eL_law_2141 : WP (ML_law g) Q (2141, [l0, l1, l2, l3, some (.int a), l5, l6], st, w, k, n) = WP (ML_law g) Q (2143, [l0, l1, l2, l3, some (.int a), l5, l6], .int a :: st, w, k, n) := il_e rfl (op_21 (bA_q qh_33 29 21 rfl) (bA_q qh_33 30 4 rfl)) rfl
theorem eL_law_2143 : WP (ML_law g) Q (2143, [l0, l1, l2, l3, l4, l5, l6], st, w, k, n) = WP (ML_law g) Q (2144, [l0, l1, l2, l3, l4, l5, l6], .int 1 :: st, w, k, n) := ic_1 rfl (op_4 (bA_q qh_33 31 4 rfl))
theorem eL_law_2144 : WP (ML_law g) Q (2144, [l0, l1, l2, l3, l4, l5, l6], .int b :: .int a :: st, w, k, n) = WP (ML_law g) Q (2145, [l0, l1, l2, l3, l4, l5, l6], .int (a + b) :: st, w, k, n) := iadd_e rfl (op_96 (bA_q qh_33 32 96 rfl))
theorem eL_law_2145 : WP (ML_law g) Q (2145, [l0, l1, l2, l3, l4, l5, l6], .int a :: .ref p :: st, w, k, n) = gi (rd g w p) 1 fun N f => vp_in a N ∧ WP (ML_law g) Q (2146, [l0, l1, l2, l3, l4, l5, l6], .int (f a.toNatClampNeg) :: st, w, k, n) := iaload_e rfl (op_46 (bA_q qh_33 33 46 rfl))
theorem eL_law_2146 : WP (ML_law g) Q (2146, [some (.ref p), l1, l2, l3, l4, l5, l6], st, w, k, n) = WP (ML_law g) Q (2147, [some (.ref p), l1, l2, l3, l4, l5, l6], .ref p :: st, w, k, n) := alnR_e rfl (op_42 (bA_q qh_33 34 42 rfl)) rfl
theorem eL_law_2147 : WP (ML_law g) Q (2147, [l0, l1, l2, l3, some (.int a), l5, l6], st, w, k, n) = WP (ML_law g) Q (2149, [l0, l1, l2, l3, some (.int a), l5, l6], .int a :: st, w, k, n) := il_e rfl (op_21 (bA_q qh_33 35 21 rfl) (bA_q qh_33 36 4 rfl)) rfl
theorem eL_law_2149 : WP (ML_law g) Q (2149, [l0, l1, l2, l3, l4, l5, l6], st, w, k, n) = WP (ML_law g) Q (2150, [l0, l1, l2, l3, l4, l5, l6], .int 2 :: st, w, k, n) := ic_2 rfl (op_5 (bA_q qh_33 37 5 rfl))
theorem eL_law_2150 : WP (ML_law g) Q (2150, [l0, l1, l2, l3, l4, l5, l6], .int b :: .int a :: st, w, k, n) = WP (ML_law g) Q (2151, [l0, l1, l2, l3, l4, l5, l6], .int (a + b) :: st, w, k, n) := iadd_e rfl (op_96 (bA_q qh_33 38 96 rfl))
theorem eL_law_2151 : WP (ML_law g) Q (2151, [l0, l1, l2, l3, l4, l5, l6], .int a :: .ref p :: st, w, k, n) = gi (rd g w p) 1 fun N f => vp_in a N ∧ WP (ML_law g) Q (2152, [l0, l1, l2, l3, l4, l5, l6], .int (f a.toNatClampNeg) :: st, w, k, n) := iaload_e rfl (op_46 (bA_q qh_33 39 46 rfl))
theorem eL_law_2152 : WP (ML_law g) Q (2152, [l0, l1, l2, some (.ref p), l4, l5, l6], st, w, k, n) = WP (ML_law g) Q (2153, [l0, l1, l2, some (.ref p), l4, l5, l6], .ref p :: st, w, k, n) := alnR_e rfl (op_45 (bA_q qh_33 40 45 rfl)) rfl
theorem eL_law_2153RR {z0 : Nat} {z1 : Int32} {z2 : Int32} {z3 : Nat} : WP (ML_law g) Q (2153, [l0, l1, l2, l3, l4, l5, l6], .ref z3 :: .int z2 :: .int z1 :: .ref z0 :: st, w, k, n) = (wt st ≤ 8 ∧ k + 2 ≤ 58408 ∧ n + 12 ≤ 1451408 ∧ WP (ML_pile g) (kx (fun v w' => WP (ML_law g) Q (2156, [l0, l1, l2, l3, l4, l5, l6], v.toList ++ st, w', k + 2, n + 12)) (fun E w' => Q (.inr E) w')) (0, [some (.ref z0), some (.int z1), some (.int z2), some (.ref z3), none], [], w, 0, 0)) := csS0 (M := (ML_law g)) (mc := (fun _ _ => 2)) (ms := (fun _ _ => 12)) (As := [.ref z0, .int z1, .int z2, .ref z3]) (rest := st) (ML_pile g) rfl rfl rfl (op_184 (bA_q qh_33 41 184 rfl) (bA_q qh_33 42 1 rfl) (bA_q qh_33 43 63 rfl) rfl) rfl rfl rfl rfl rfl rfl rfl
theorem eL_law_2156 : WP (ML_law g) Q (2156, [l0, l1, l2, l3, l4, l5, l6], .int a :: st, w, k, n) = WP (ML_law g) Q (2158, [l0, l1, l2, l3, nl l4, some (.int a), l6], st, w, k, n) := is_e rfl (op_54 (bA_q qh_33 44 54 rfl) (bA_q qh_33 45 5 rfl)) rfl rfl
theorem eL_law_2158 : WP (ML_law g) Q (2158, [l0, l1, some (.ref p), l3, l4, l5, l6], st, w, k, n) = WP (ML_law g) Q (2159, [l0, l1, some (.ref p), l3, l4, l5, l6], .ref p :: st, w, k, n) := alnR_e rfl (op_44 (bA_q qh_33 46 44 rfl)) rfl
theorem eL_law_2159 : WP (ML_law g) Q (2159, [some (.ref p), l1, l2, l3, l4, l5, l6], st, w, k, n) = WP (ML_law g) Q (2160, [some (.ref p), l1, l2, l3, l4, l5, l6], .ref p :: st, w, k, n) := alnR_e rfl (op_42 (bA_q qh_33 47 42 rfl)) rfl
theorem eL_law_2160 : WP (ML_law g) Q (2160, [l0, l1, l2, l3, some (.int a), l5, l6], st, w, k, n) = WP (ML_law g) Q (2162, [l0, l1, l2, l3, some (.int a), l5, l6], .int a :: st, w, k, n) := il_e rfl (op_21 (bA_q qh_33 48 21 rfl) (bA_q qh_33 49 4 rfl)) rfl
theorem eL_law_2162 : WP (ML_law g) Q (2162, [l0, l1, l2, l3, l4, l5, l6], st, w, k, n) = WP (ML_law g) Q (2163, [l0, l1, l2, l3, l4, l5, l6], .int 1 :: st, w, k, n) := ic_1 rfl (op_4 (bA_q qh_33 50 4 rfl))
theorem eL_law_2163 : WP (ML_law g) Q (2163, [l0, l1, l2, l3, l4, l5, l6], .int b :: .int a :: st, w, k, n) = WP (ML_law g) Q (2164, [l0, l1, l2, l3, l4, l5, l6], .int (a + b) :: st, w, k, n) := iadd_e rfl (op_96 (bA_q qh_33 51 96 rfl))
theorem eL_law_2164 : WP (ML_law g) Q (2164, [l0, l1, l2, l3, l4, l5, l6], .int a :: .ref p :: st, w, k, n) = gi (rd g w p) 1 fun N f => vp_in a N ∧ WP (ML_law g) Q (2165, [l0, l1, l2, l3, l4, l5, l6], .int (f a.toNatClampNeg) :: st, w, k, n) := iaload_e rfl (op_46 (bA_q qh_33 52 46 rfl))
theorem eL_law_2165 : WP (ML_law g) Q (2165, [some (.ref p), l1, l2, l3, l4, l5, l6], st, w, k, n) = WP (ML_law g) Q (2166, [some (.ref p), l1, l2, l3, l4, l5, l6], .ref p :: st, w, k, n) := alnR_e rfl (op_42 (bA_q qh_33 53 42 rfl)) rfl
theorem eL_law_2166 : WP (ML_law g) Q (2166, [l0, l1, l2, l3, some (.int a), l5, l6], st, w, k, n) = WP (ML_law g) Q (2168, [l0, l1, l2, l3, some (.int a), l5, l6], .int a :: st, w, k, n) := il_e rfl (op_21 (bA_q qh_33 54 21 rfl) (bA_q qh_33 55 4 rfl)) rfl
theorem eL_law_2168 : WP (ML_law g) Q (2168, [l0, l1, l2, l3, l4, l5, l6], st, w, k, n) = WP (ML_law g) Q (2169, [l0, l1, l2, l3, l4, l5, l6], .int 2 :: st, w, k, n) := ic_2 rfl (op_5 (bA_q qh_33 56 5 rfl))
theorem eL_law_2169 : WP (ML_law g) Q (2169, [l0, l1, l2, l3, l4, l5, l6], .int b :: .int a :: st, w, k, n) = WP (ML_law g) Q (2170, [l0, l1, l2, l3, l4, l5, l6], .int (a + b) :: st, w, k, n) := iadd_e rfl (op_96 (bA_q qh_33 57 96 rfl))
theorem eL_law_2170 : WP (ML_law g) Q (2170, [l0, l1, l2, l3, l4, l5, l6], .int a :: .ref p :: st, w, k, n) = gi (rd g w p) 1 fun N f => vp_in a N ∧ WP (ML_law g) Q (2171, [l0, l1, l2, l3, l4, l5, l6], .int (f a.toNatClampNeg) :: st, w, k, n) := iaload_e rfl (op_46 (bA_q qh_33 58 46 rfl))
theorem eL_law_2171 {z0 : Int32} {z1 : Int32} : WP (ML_law g) Q (2171, [l0, l1, l2, l3, l4, l5, l6], .int z1 :: .int z0 :: .ref p :: st, w, k, n) = (go (rd g w p) 7 (fun _ => True) ∧ wt st ≤ 8 ∧ k + 12 ≤ 58408 ∧ n + 72 ≤ 1451408 ∧ WP (MX3_pile g) (kx (fun v w' => WP (ML_law g) Q (2174, [l0, l1, l2, l3, l4, l5, l6], v.toList ++ st, w', k + 12, n + 72)) (fun E w' => Q (.inr E) w')) (0, [some (.ref p), some (.int z0), some (.int z1)], [], w, 0, 0)) := csV0 (M := (ML_law g)) (mc := (fun _ _ => 12)) (ms := (fun _ _ => 72)) (As := [.int z0, .int z1]) (rest := st) (MX3_pile g) rfl rfl rfl (op_182 (bA_q qh_33 59 182 rfl) (bA_q qh_33 60 1 rfl) (bA_q qh_33 61 65 rfl) rfl) rfl rfl rfl rfl rfl rfl
theorem eL_law_2174 : WP (ML_law g) Q (2174, [l0, l1, l2, l3, l4, l5, l6], .int a :: st, w, k, n) = WP (ML_law g) Q (2176, [l0, l1, l2, l3, l4, nl l5, some (.int a)], st, w, k, n) := is_e rfl (op_54 (bA_q qh_33 62 54 rfl) (bA_q qh_33 63 6 rfl)) rfl rfl
theorem eL_law_2176 : WP (ML_law g) Q (2176, [l0, l1, l2, l3, l4, l5, l6], st, w, k, n) = WP (ML_law g) Q (2246, [l0, l1, l2, l3, l4, l5, l6], st, w, k, n) := goto_e rfl (op_167 (bA_q qh_34 0 167 rfl) (bA_q qh_34 1 0 rfl) (bA_q qh_34 2 70 rfl) rfl) (by decide)
theorem eL_law_2179 : WP (ML_law g) Q (2179, [l0, some (.ref p), l2, l3, l4, l5, l6], st, w, k, n) = WP (ML_law g) Q (2180, [l0, some (.ref p), l2, l3, l4, l5, l6], .ref p :: st, w, k, n) := alnR_e rfl (op_43 (bA_q qh_34 3 43 rfl)) rfl
theorem eL_law_2179N : WP (ML_law g) Q (2179, [l0, some .null, l2, l3, l4, l5, l6], st, w, k, n) = WP (ML_law g) Q (2180, [l0, some .null, l2, l3, l4, l5, l6], .null :: st, w, k, n) := alnN_e rfl (op_43 (bA_q qh_34 3 43 rfl)) rfl
theorem eL_law_2180 : WP (ML_law g) Q (2180, [some (.ref p), l1, l2, l3, l4, l5, l6], st, w, k, n) = WP (ML_law g) Q (2181, [some (.ref p), l1, l2, l3, l4, l5, l6], .ref p :: st, w, k, n) := alnR_e rfl (op_42 (bA_q qh_34 4 42 rfl)) rfl
theorem eL_law_2180N : WP (ML_law g) Q (2180, [some .null, l1, l2, l3, l4, l5, l6], st, w, k, n) = WP (ML_law g) Q (2181, [some .null, l1, l2, l3, l4, l5, l6], .null :: st, w, k, n) := alnN_e rfl (op_42 (bA_q qh_34 4 42 rfl)) rfl
theorem eL_law_2181 : WP (ML_law g) Q (2181, [l0, l1, l2, l3, some (.int a), l5, l6], st, w, k, n) = WP (ML_law g) Q (2183, [l0, l1, l2, l3, some (.int a), l5, l6], .int a :: st, w, k, n) := il_e rfl (op_21 (bA_q qh_34 5 21 rfl) (bA_q qh_34 6 4 rfl)) rfl
theorem eL_law_2183 : WP (ML_law g) Q (2183, [l0, l1, l2, l3, l4, l5, l6], st, w, k, n) = WP (ML_law g) Q (2184, [l0, l1, l2, l3, l4, l5, l6], .int 1 :: st, w, k, n) := ic_1 rfl (op_4 (bA_q qh_34 7 4 rfl))
theorem eL_law_2184 : WP (ML_law g) Q (2184, [l0, l1, l2, l3, l4, l5, l6], .int b :: .int a :: st, w, k, n) = WP (ML_law g) Q (2185, [l0, l1, l2, l3, l4, l5, l6], .int (a + b) :: st, w, k, n) := iadd_e rfl (op_96 (bA_q qh_34 8 96 rfl))
theorem eL_law_2185 : WP (ML_law g) Q (2185, [l0, l1, l2, l3, l4, l5, l6], .int a :: .ref p :: st, w, k, n) = gi (rd g w p) 1 fun N f => vp_in a N ∧ WP (ML_law g) Q (2186, [l0, l1, l2, l3, l4, l5, l6], .int (f a.toNatClampNeg) :: st, w, k, n) := iaload_e rfl (op_46 (bA_q qh_34 9 46 rfl))
theorem eL_law_2186 : WP (ML_law g) Q (2186, [l0, l1, l2, some (.ref p), l4, l5, l6], st, w, k, n) = WP (ML_law g) Q (2187, [l0, l1, l2, some (.ref p), l4, l5, l6], .ref p :: st, w, k, n) := alnR_e rfl (op_45 (bA_q qh_34 10 45 rfl)) rfl
theorem eL_law_2186N : WP (ML_law g) Q (2186, [l0, l1, l2, some .null, l4, l5, l6], st, w, k, n) = WP (ML_law g) Q (2187, [l0, l1, l2, some .null, l4, l5, l6], .null :: st, w, k, n) := alnN_e rfl (op_45 (bA_q qh_34 10 45 rfl)) rfl
theorem eL_law_2187RR {z0 : Nat} {z1 : Int32} {z2 : Nat} : WP (ML_law g) Q (2187, [l0, l1, l2, l3, l4, l5, l6], .ref z2 :: .int z1 :: .ref z0 :: st, w, k, n) = (wt st ≤ 8 ∧ k + 1 ≤ 58408 ∧ n + 6 ≤ 1451408 ∧ WP (ML_house g) (kx (fun v w' => WP (ML_law g) Q (2190, [l0, l1, l2, l3, l4, l5, l6], v.toList ++ st, w', k + 1, n + 6)) (fun E w' => Q (.inr E) w')) (0, [some (.ref z0), some (.int z1), some (.ref z2), none], [], w, 0, 0)) := csS0 (M := (ML_law g)) (mc := (fun _ _ => 1)) (ms := (fun _ _ => 6)) (As := [.ref z0, .int z1, .ref z2]) (rest := st) (ML_house g) rfl rfl rfl (op_184 (bA_q qh_34 11 184 rfl) (bA_q qh_34 12 1 rfl) (bA_q qh_34 13 66 rfl) rfl) rfl rfl rfl rfl rfl rfl rfl
theorem eL_law_2187NR {z1 : Int32} {z2 : Nat} : WP (ML_law g) Q (2187, [l0, l1, l2, l3, l4, l5, l6], .ref z2 :: .int z1 :: .null :: st, w, k, n) = (wt st ≤ 8 ∧ k + 1 ≤ 58408 ∧ n + 6 ≤ 1451408 ∧ WP (ML_house g) (kx (fun v w' => WP (ML_law g) Q (2190, [l0, l1, l2, l3, l4, l5, l6], v.toList ++ st, w', k + 1, n + 6)) (fun E w' => Q (.inr E) w')) (0, [some .null, some (.int z1), some (.ref z2), none], [], w, 0, 0)) := csS0 (M := (ML_law g)) (mc := (fun _ _ => 1)) (ms := (fun _ _ => 6)) (As := [.null, .int z1, .ref z2]) (rest := st) (ML_house g) rfl rfl rfl (op_184 (bA_q qh_34 11 184 rfl) (bA_q qh_34 12 1 rfl) (bA_q qh_34 13 66 rfl) rfl) rfl rfl rfl rfl rfl rfl rfl
theorem eL_law_2187RN {z0 : Nat} {z1 : Int32} : WP (ML_law g) Q (2187, [l0, l1, l2, l3, l4, l5, l6], .null :: .int z1 :: .ref z0 :: st, w, k, n) = (wt st ≤ 8 ∧ k + 1 ≤ 58408 ∧ n + 6 ≤ 1451408 ∧ WP (ML_house g) (kx (fun v w' => WP (ML_law g) Q (2190, [l0, l1, l2, l3, l4, l5, l6], v.toList ++ st, w', k + 1, n + 6)) (fun E w' => Q (.inr E) w')) (0, [some (.ref z0), some (.int z1), some .null, none], [], w, 0, 0)) := csS0 (M := (ML_law g)) (mc := (fun _ _ => 1)) (ms := (fun _ _ => 6)) (As := [.ref z0, .int z1, .null]) (rest := st) (ML_house g) rfl rfl rfl (op_184 (bA_q qh_34 11 184 rfl) (bA_q qh_34 12 1 rfl) (bA_q qh_34 13 66 rfl) rfl) rfl rfl rfl rfl rfl rfl rfl
theorem eL_law_2187NN {z1 : Int32} : WP (ML_law g) Q (2187, [l0, l1, l2, l3, l4, l5, l6], .null :: .int z1 :: .null :: st, w, k, n) = (wt st ≤ 8 ∧ k + 1 ≤ 58408 ∧ n + 6 ≤ 1451408 ∧ WP (ML_house g) (kx (fun v w' => WP (ML_law g) Q (2190, [l0, l1, l2, l3, l4, l5, l6], v.toList ++ st, w', k + 1, n + 6)) (fun E w' => Q (.inr E) w')) (0, [some .null, some (.int z1), some .null, none], [], w, 0, 0)) := csS0 (M := (ML_law g)) (mc := (fun _ _ => 1)) (ms := (fun _ _ => 6)) (As := [.null, .int z1, .null]) (rest := st) (ML_house g) rfl rfl rfl (op_184 (bA_q qh_34 11 184 rfl) (bA_q qh_34 12 1 rfl) (bA_q qh_34 13 66 rfl) rfl) rfl rfl rfl rfl rfl rfl rfl
theorem eL_law_2190 : WP (ML_law g) Q (2190, [l0, l1, l2, l3, l4, l5, l6], .int a :: st, w, k, n) = WP (ML_law g) Q (2192, [l0, l1, l2, l3, nl l4, some (.int a), l6], st, w, k, n) := is_e rfl (op_54 (bA_q qh_34 14 54 rfl) (bA_q qh_34 15 5 rfl)) rfl rfl
theorem eL_law_2192 : WP (ML_law g) Q (2192, [l0, l1, some (.ref p), l3, l4, l5, l6], st, w, k, n) = WP (ML_law g) Q (2193, [l0, l1, some (.ref p), l3, l4, l5, l6], .ref p :: st, w, k, n) := alnR_e rfl (op_44 (bA_q qh_34 16 44 rfl)) rfl
theorem eL_law_2192N : WP (ML_law g) Q (2192, [l0, l1, some .null, l3, l4, l5, l6], st, w, k, n) = WP (ML_law g) Q (2193, [l0, l1, some .null, l3, l4, l5, l6], .null :: st, w, k, n) := alnN_e rfl (op_44 (bA_q qh_34 16 44 rfl)) rfl
theorem eL_law_2193 : WP (ML_law g) Q (2193, [some (.ref p), l1, l2, l3, l4, l5, l6], st, w, k, n) = WP (ML_law g) Q (2194, [some (.ref p), l1, l2, l3, l4, l5, l6], .ref p :: st, w, k, n) := alnR_e rfl (op_42 (bA_q qh_34 17 42 rfl)) rfl
theorem eL_law_2193N : WP (ML_law g) Q (2193, [some .null, l1, l2, l3, l4, l5, l6], st, w, k, n) = WP (ML_law g) Q (2194, [some .null, l1, l2, l3, l4, l5, l6], .null :: st, w, k, n) := alnN_e rfl (op_42 (bA_q qh_34 17 42 rfl)) rfl
theorem eL_law_2194 : WP (ML_law g) Q (2194, [l0, l1, l2, l3, some (.int a), l5, l6], st, w, k, n) = WP (ML_law g) Q (2196, [l0, l1, l2, l3, some (.int a), l5, l6], .int a :: st, w, k, n) := il_e rfl (op_21 (bA_q qh_34 18 21 rfl) (bA_q qh_34 19 4 rfl)) rfl
theorem eL_law_2196 : WP (ML_law g) Q (2196, [l0, l1, l2, l3, l4, l5, l6], st, w, k, n) = WP (ML_law g) Q (2197, [l0, l1, l2, l3, l4, l5, l6], .int 1 :: st, w, k, n) := ic_1 rfl (op_4 (bA_q qh_34 20 4 rfl))
theorem eL_law_2197 : WP (ML_law g) Q (2197, [l0, l1, l2, l3, l4, l5, l6], .int b :: .int a :: st, w, k, n) = WP (ML_law g) Q (2198, [l0, l1, l2, l3, l4, l5, l6], .int (a + b) :: st, w, k, n) := iadd_e rfl (op_96 (bA_q qh_34 21 96 rfl))
theorem eL_law_2198 : WP (ML_law g) Q (2198, [l0, l1, l2, l3, l4, l5, l6], .int a :: .ref p :: st, w, k, n) = gi (rd g w p) 1 fun N f => vp_in a N ∧ WP (ML_law g) Q (2199, [l0, l1, l2, l3, l4, l5, l6], .int (f a.toNatClampNeg) :: st, w, k, n) := iaload_e rfl (op_46 (bA_q qh_34 22 46 rfl))
theorem eL_law_2199 {z0 : Int32} : WP (ML_law g) Q (2199, [l0, l1, l2, l3, l4, l5, l6], .int z0 :: .ref p :: st, w, k, n) = (go (rd g w p) 7 (fun _ => True) ∧ wt st ≤ 8 ∧ k + 2 ≤ 58408 ∧ n + 9 ≤ 1451408 ∧ WP (MX3_house g) (kx (fun v w' => WP (ML_law g) Q (2202, [l0, l1, l2, l3, l4, l5, l6], v.toList ++ st, w', k + 2, n + 9)) (fun E w' => Q (.inr E) w')) (0, [some (.ref p), some (.int z0)], [], w, 0, 0)) := csV0 (M := (ML_law g)) (mc := (fun _ _ => 2)) (ms := (fun _ _ => 9)) (As := [.int z0]) (rest := st) (MX3_house g) rfl rfl rfl (op_182 (bA_q qh_34 23 182 rfl) (bA_q qh_34 24 1 rfl) (bA_q qh_34 25 68 rfl) rfl) rfl rfl rfl rfl rfl rfl
theorem eL_law_2202 : WP (ML_law g) Q (2202, [l0, l1, l2, l3, l4, l5, l6], .int a :: st, w, k, n) = WP (ML_law g) Q (2204, [l0, l1, l2, l3, l4, nl l5, some (.int a)], st, w, k, n) := is_e rfl (op_54 (bA_q qh_34 26 54 rfl) (bA_q qh_34 27 6 rfl)) rfl rfl
theorem eL_law_2204 : WP (ML_law g) Q (2204, [l0, l1, l2, l3, l4, l5, l6], st, w, k, n) = WP (ML_law g) Q (2246, [l0, l1, l2, l3, l4, l5, l6], st, w, k, n) := goto_e rfl (op_167 (bA_q qh_34 28 167 rfl) (bA_q qh_34 29 0 rfl) (bA_q qh_34 30 42 rfl) rfl) (by decide)
theorem eL_law_2207 : WP (ML_law g) Q (2207, [l0, some (.ref p), l2, l3, l4, l5, l6], st, w, k, n) = WP (ML_law g) Q (2208, [l0, some (.ref p), l2, l3, l4, l5, l6], .ref p :: st, w, k, n) := alnR_e rfl (op_43 (bA_q qh_34 31 43 rfl)) rfl
theorem eL_law_2208  : WP (ML_law g) Q (2208, [l0, l1, l2, l3, l4, l5, l6], .ref p :: st, w, k, n) = (go (rd g w p) 5 (fun _ => True) ∧ wt st ≤ 8 ∧ k + 0 ≤ 58408 ∧ n + 0 ≤ 1451408 ∧ WP (MX1_knock g) (kx (fun v w' => WP (ML_law g) Q (2211, [l0, l1, l2, l3, l4, l5, l6], v.toList ++ st, w', k + 0, n + 0)) (fun E w' => Q (.inr E) w')) (0, [some (.ref p)], [], w, 0, 0)) := csV0 (M := (ML_law g)) (mc := (fun _ _ => 0)) (ms := (fun _ _ => 0)) (As := []) (rest := st) (MX1_knock g) rfl rfl rfl (op_182 (bA_q qh_34 32 182 rfl) (bA_q qh_34 33 1 rfl) (bA_q qh_34 34 69 rfl) rfl) rfl rfl rfl rfl rfl rfl
theorem eL_law_2211 : WP (ML_law g) Q (2211, [l0, l1, l2, l3, l4, l5, l6], .int a :: st, w, k, n) = WP (ML_law g) Q (2212, [l0, l1, l2, l3, l4, l5, l6], st, w, k, n) := popI_e rfl (op_87 (bA_q qh_34 35 87 rfl))
theorem eL_law_2212 : WP (ML_law g) Q (2212, [l0, l1, some (.ref p), l3, l4, l5, l6], st, w, k, n) = WP (ML_law g) Q (2213, [l0, l1, some (.ref p), l3, l4, l5, l6], .ref p :: st, w, k, n) := alnR_e rfl (op_44 (bA_q qh_34 36 44 rfl)) rfl
theorem eL_law_2213  : WP (ML_law g) Q (2213, [l0, l1, l2, l3, l4, l5, l6], .ref p :: st, w, k, n) = (go (rd g w p) 7 (fun _ => True) ∧ wt st ≤ 8 ∧ k + 0 ≤ 58408 ∧ n + 0 ≤ 1451408 ∧ WP (MX3_knock g) (kx (fun v w' => WP (ML_law g) Q (2216, [l0, l1, l2, l3, l4, l5, l6], v.toList ++ st, w', k + 0, n + 0)) (fun E w' => Q (.inr E) w')) (0, [some (.ref p)], [], w, 0, 0)) := csV0 (M := (ML_law g)) (mc := (fun _ _ => 0)) (ms := (fun _ _ => 0)) (As := []) (rest := st) (MX3_knock g) rfl rfl rfl (op_182 (bA_q qh_34 37 182 rfl) (bA_q qh_34 38 1 rfl) (bA_q qh_34 39 72 rfl) rfl) rfl rfl rfl rfl rfl rfl
theorem eL_law_2216 : WP (ML_law g) Q (2216, [l0, l1, l2, l3, l4, l5, l6], .int a :: st, w, k, n) = WP (ML_law g) Q (2217, [l0, l1, l2, l3, l4, l5, l6], st, w, k, n) := popI_e rfl (op_87 (bA_q qh_34 40 87 rfl))
theorem eL_law_2217 : WP (ML_law g) Q (2217, [l0, l1, l2, l3, l4, l5, l6], st, w, k, n) = WP (ML_law g) Q (2246, [l0, l1, l2, l3, l4, l5, l6], st, w, k, n) := goto_e rfl (op_167 (bA_q qh_34 41 167 rfl) (bA_q qh_34 42 0 rfl) (bA_q qh_34 43 29 rfl) rfl) (by decide)
theorem eL_law_2220 : WP (ML_law g) Q (2220, [l0, some (.ref p), l2, l3, l4, l5, l6], st, w, k, n) = WP (ML_law g) Q (2221, [l0, some (.ref p), l2, l3, l4, l5, l6], .ref p :: st, w, k, n) := alnR_e rfl (op_43 (bA_q qh_34 44 43 rfl)) rfl
theorem eL_law_2221  : WP (ML_law g) Q (2221, [l0, l1, l2, l3, l4, l5, l6], .ref p :: st, w, k, n) = (go (rd g w p) 5 (fun _ => True) ∧ wt st ≤ 8 ∧ k + 24 ≤ 58408 ∧ n + 96 ≤ 1451408 ∧ WP (MX1_isSound g) (kx (fun v w' => WP (ML_law g) Q (2224, [l0, l1, l2, l3, l4, l5, l6], v.toList ++ st, w', k + 24, n + 96)) (fun E w' => Q (.inr E) w')) (0, [some (.ref p), none, none], [], w, 0, 0)) := csV0 (M := (ML_law g)) (mc := (fun _ _ => 24)) (ms := (fun _ _ => 96)) (As := []) (rest := st) (MX1_isSound g) rfl rfl rfl (op_182 (bA_q qh_34 45 182 rfl) (bA_q qh_34 46 1 rfl) (bA_q qh_34 47 73 rfl) rfl) rfl rfl rfl rfl rfl rfl
theorem eL_law_2224 : WP (ML_law g) Q (2224, [l0, l1, l2, l3, l4, l5, l6], .int a :: st, w, k, n) = WP (ML_law g) Q (2225, [l0, l1, l2, l3, l4, l5, l6], st, w, k, n) := popI_e rfl (op_87 (bA_q qh_34 48 87 rfl))
theorem eL_law_2225 : WP (ML_law g) Q (2225, [l0, l1, some (.ref p), l3, l4, l5, l6], st, w, k, n) = WP (ML_law g) Q (2226, [l0, l1, some (.ref p), l3, l4, l5, l6], .ref p :: st, w, k, n) := alnR_e rfl (op_44 (bA_q qh_34 49 44 rfl)) rfl
theorem eL_law_2226  : WP (ML_law g) Q (2226, [l0, l1, l2, l3, l4, l5, l6], .ref p :: st, w, k, n) = (go (rd g w p) 7 (fun _ => True) ∧ wt st ≤ 8 ∧ k + 0 ≤ 58408 ∧ n + 0 ≤ 1451408 ∧ WP (MX3_isSound g) (kx (fun v w' => WP (ML_law g) Q (2229, [l0, l1, l2, l3, l4, l5, l6], v.toList ++ st, w', k + 0, n + 0)) (fun E w' => Q (.inr E) w')) (0, [some (.ref p)], [], w, 0, 0)) := csV0 (M := (ML_law g)) (mc := (fun _ _ => 0)) (ms := (fun _ _ => 0)) (As := []) (rest := st) (MX3_isSound g) rfl rfl rfl (op_182 (bA_q qh_34 50 182 rfl) (bA_q qh_34 51 1 rfl) (bA_q qh_34 52 77 rfl) rfl) rfl rfl rfl rfl rfl rfl
theorem eL_law_2229 : WP (ML_law g) Q (2229, [l0, l1, l2, l3, l4, l5, l6], .int a :: st, w, k, n) = WP (ML_law g) Q (2230, [l0, l1, l2, l3, l4, l5, l6], st, w, k, n) := popI_e rfl (op_87 (bA_q qh_34 53 87 rfl))
theorem eL_law_2230 : WP (ML_law g) Q (2230, [l0, l1, l2, l3, l4, l5, l6], st, w, k, n) = WP (ML_law g) Q (2246, [l0, l1, l2, l3, l4, l5, l6], st, w, k, n) := goto_e rfl (op_167 (bA_q qh_34 54 167 rfl) (bA_q qh_34 55 0 rfl) (bA_q qh_34 56 16 rfl) rfl) (by decide)
theorem eL_law_2233 : WP (ML_law g) Q (2233, [l0, some (.ref p), l2, l3, l4, l5, l6], st, w, k, n) = WP (ML_law g) Q (2234, [l0, some (.ref p), l2, l3, l4, l5, l6], .ref p :: st, w, k, n) := alnR_e rfl (op_43 (bA_q qh_34 57 43 rfl)) rfl
theorem eL_law_2234  : WP (ML_law g) Q (2234, [l0, l1, l2, l3, l4, l5, l6], .ref p :: st, w, k, n) = (go (rd g w p) 5 (fun _ => True) ∧ wt st ≤ 8 ∧ k + 24 ≤ 58408 ∧ n + 96 ≤ 1451408 ∧ WP (MX1_digest g) (kx (fun v w' => WP (ML_law g) Q (2237, [l0, l1, l2, l3, l4, l5, l6], v.toList ++ st, w', k + 24, n + 96)) (fun E w' => Q (.inr E) w')) (0, [some (.ref p), none, none, none], [], w, 0, 0)) := csV0 (M := (ML_law g)) (mc := (fun _ _ => 24)) (ms := (fun _ _ => 96)) (As := []) (rest := st) (MX1_digest g) rfl rfl rfl (op_182 (bA_q qh_34 58 182 rfl) (bA_q qh_34 59 1 rfl) (bA_q qh_34 60 78 rfl) rfl) rfl rfl rfl rfl rfl rfl
theorem eL_law_2237 : WP (ML_law g) Q (2237, [l0, l1, l2, l3, l4, l5, l6], .long x :: st, w, k, n) = WP (ML_law g) Q (2238, [l0, l1, l2, l3, l4, l5, l6], st, w, k, n) := by rw [WP_at (M := (ML_law g)) rfl dL_law_2237 (Or.inr rfl)]; exact and_t rfl
theorem eL_law_2238 : WP (ML_law g) Q (2238, [l0, l1, some (.ref p), l3, l4, l5, l6], st, w, k, n) = WP (ML_law g) Q (2239, [l0, l1, some (.ref p), l3, l4, l5, l6], .ref p :: st, w, k, n) := alnR_e rfl (op_44 (bA_q qh_34 62 44 rfl)) rfl
theorem eL_law_2239  : WP (ML_law g) Q (2239, [l0, l1, l2, l3, l4, l5, l6], .ref p :: st, w, k, n) = (go (rd g w p) 7 (fun _ => True) ∧ wt st ≤ 8 ∧ k + 90 ≤ 58408 ∧ n + 520 ≤ 1451408 ∧ WP (MX3_digest g) (kx (fun v w' => WP (ML_law g) Q (2242, [l0, l1, l2, l3, l4, l5, l6], v.toList ++ st, w', k + 90, n + 520)) (fun E w' => Q (.inr E) w')) (0, [some (.ref p), none, none, none, none, none], [], w, 0, 0)) := csV0 (M := (ML_law g)) (mc := (fun _ _ => 90)) (ms := (fun _ _ => 520)) (As := []) (rest := st) (MX3_digest g) rfl rfl rfl (op_182 (bA_q qh_34 63 182 rfl) (bA_q qh_34 64 1 rfl) (bA_q qh_34 65 82 rfl) rfl) rfl rfl rfl rfl rfl rfl
theorem eL_law_2242 : WP (ML_law g) Q (2242, [l0, l1, l2, l3, l4, l5, l6], .long x :: st, w, k, n) = WP (ML_law g) Q (2243, [l0, l1, l2, l3, l4, l5, l6], st, w, k, n) := by rw [WP_at (M := (ML_law g)) rfl dL_law_2242 (Or.inr rfl)]; exact and_t rfl
theorem eL_law_2243 : WP (ML_law g) Q (2243, [l0, l1, l2, l3, l4, l5, l6], st, w, k, n) = WP (ML_law g) Q (2246, [l0, l1, l2, l3, l4, l5, l6], st, w, k, n) := goto_e rfl (op_167 (bA_q qh_35 3 167 rfl) (bA_q qh_35 4 0 rfl) (bA_q qh_35 5 3 rfl) rfl) (by decide)
theorem eL_law_2246 : WP (ML_law g) Q (2246, [l0, l1, l2, l3, some (.int a), l5, l6], st, w, k, n) = WP (ML_law g) Q (2249, [l0, l1, l2, nl l3, some (.int (a + 6)), l5, l6], st, w, k, n) := Eq.trans (iinc_e (M := (ML_law g)) (L := [l0, l1, l2, l3, some (.int a), l5, l6]) (d := 6) rfl dL_law_2246 (by decide) rfl) rfl
theorem eL_law_2249 : WP (ML_law g) Q (2249, [l0, l1, l2, l3, l4, l5, l6], st, w, k, n) = WP (ML_law g) Q (27, [l0, l1, l2, l3, l4, l5, l6], st, w, k, n) := goto_e rfl (op_167 (bA_q qh_35 9 167 rfl) (bA_q qh_35 10 247 rfl) (bA_q qh_35 11 82 rfl) rfl) (by decide)
theorem eL_law_2252 : WP (ML_law g) Q (2252, [l0, l1, l2, l3, l4, l5, l6], st, w, k, n) = WP (ML_law g) Q (2253, [l0, l1, l2, l3, l4, l5, l6], .int 1 :: st, w, k, n) := ic_1 rfl (op_4 (bA_q qh_35 12 4 rfl))
set_option maxRecDepth 20000 in
theorem eL_law_2253 : WP (ML_law g) Q (2253, [l0, l1, l2, l3, l4, l5, l6], [.int a], w, k, n) = (narrow (.boolean) (.int a) = .int a ∧ k ≤ 58408 ∧ n ≤ 1451408 ∧ Q (.inl (some (.int a))) w) := iret_e rfl dL_law_2253 rfl
end
end
/-! 69.lawf.lean.txt -/
section
theorem wk_88 : (.classLink RL 8 RX1 : Jvm.Cond) ∈ WS := WS_t1 30 (by eq_refl) (by eq_refl)
theorem wk_89 : (.instantiable RX1 7 : Jvm.Cond) ∈ WS := WS_t1 31 (by eq_refl) (by eq_refl)
theorem vN_RL_8 : vNew RL 8 5 [.null, .null, .null, .int 0, .int 0, .int 0, .int 0] := ⟨RX1, TX1, tyX1, rfl, iW_5, tyX1_ok, wk_88, wk_89, wk_59, fun j hj => by match j, hj with | 0, _ => rfl | 1, _ => rfl | 2, _ => rfl | 3, _ => rfl | 4, _ => rfl | 5, _ => rfl | 6, _ => rfl | j + 7, hj => exact absurd hj (Nat.not_lt.mpr (Nat.le_add_left _ _))⟩
theorem wk_1114 : (.classLink RL 168 RX3 : Jvm.Cond) ∈ WS := WS_t5 96 (by eq_refl) (by eq_refl)
theorem wk_1115 : (.instantiable RX3 7 : Jvm.Cond) ∈ WS := WS_t5 97 (by eq_refl) (by eq_refl)
theorem vN_RL_168 : vNew RL 168 7 [.int 0, .null, .null, .null, .int 0, .int 0, .int 0] := ⟨RX3, TX3, tyX3, rfl, iW_7, tyX3_ok, wk_1114, wk_1115, wk_60, fun j hj => by match j, hj with | 0, _ => rfl | 1, _ => rfl | 2, _ => rfl | 3, _ => rfl | 4, _ => rfl | 5, _ => rfl | 6, _ => rfl | j + 7, hj => exact absurd hj (Nat.not_lt.mpr (Nat.le_add_left _ _))⟩
theorem wk_332 : (.classLink RL 14 RX2 : Jvm.Cond) ∈ WS := WS_t2 34 (by eq_refl) (by eq_refl)
theorem wk_333 : (.instantiable RX2 2 : Jvm.Cond) ∈ WS := WS_t2 35 (by eq_refl) (by eq_refl)
theorem wk_68 : (.initialized RX2 : Jvm.Cond) ∈ WS := WS_t1 10 (by eq_refl) (by eq_refl)
theorem vN_RL_14 : vNew RL 14 6 [.long 0, .null] := ⟨RX2, TX2, tyX2, rfl, iW_6, tyX2_ok, wk_332, wk_333, wk_68, fun j hj => by match j, hj with | 0, _ => rfl | 1, _ => rfl | j + 2, hj => exact absurd hj (Nat.not_lt.mpr (Nat.le_add_left _ _))⟩
theorem wk_92 : (.code yX1_init cX1_init 1 (none) : Jvm.Cond) ∈ WS := WS_t1 34 (by eq_refl) (by eq_refl)
theorem wk_90 : (.methodLink RL 167 yX1_init : Jvm.Cond) ∈ WS := WS_t1 32 (by eq_refl) (by eq_refl)
theorem wk_91 : (.instanceMethod yX1_init : Jvm.Cond) ∈ WS := WS_t1 33 (by eq_refl) (by eq_refl)
theorem wk_1118 : (.code yX3_init cX3_init 2 (none) : Jvm.Cond) ∈ WS := WS_t5 100 (by eq_refl) (by eq_refl)
theorem wk_1116 : (.methodLink RL 170 yX3_init : Jvm.Cond) ∈ WS := WS_t5 98 (by eq_refl) (by eq_refl)
theorem wk_1117 : (.instanceMethod yX3_init : Jvm.Cond) ∈ WS := WS_t5 99 (by eq_refl) (by eq_refl)
theorem wk_336 : (.code yX2_init cX2_init 1 (none) : Jvm.Cond) ∈ WS := WS_t2 38 (by eq_refl) (by eq_refl)
theorem wk_335 : (.instanceMethod yX2_init : Jvm.Cond) ∈ WS := WS_t2 37 (by eq_refl) (by eq_refl)
theorem wk_347 : (.codeWith yL_set cL_set 6 (some .int) [(0, 13, 16, 19)] : Jvm.Cond) ∈ WS := WS_t2 49 (by eq_refl) (by eq_refl)
theorem wk_58 : (.initialized RL : Jvm.Cond) ∈ WS := WS_t1 0 (by eq_refl) (by eq_refl)
theorem wk_345 : (.methodLink RL 172 yL_set : Jvm.Cond) ∈ WS := WS_t2 47 (by eq_refl) (by eq_refl)
theorem wk_346 : (.static yL_set : Jvm.Cond) ∈ WS := WS_t2 48 (by eq_refl) (by eq_refl)
theorem wk_1221 : (.code yX3_set cX3_set 5 (some .int) : Jvm.Cond) ∈ WS := WS_t5 203 (by eq_refl) (by eq_refl)
theorem wk_1218 : (.methodLink RL 177 yX3_set : Jvm.Cond) ∈ WS := WS_t5 200 (by eq_refl) (by eq_refl)
theorem wk_1219 : (.instanceMethod yX3_set : Jvm.Cond) ∈ WS := WS_t5 201 (by eq_refl) (by eq_refl)
theorem wk_1220 : (.selects RX3 yX3_set yX3_set : Jvm.Cond) ∈ WS := WS_t5 202 (by eq_refl) (by eq_refl)
theorem wk_427 : (.codeWith yL_setSmall cL_setSmall 5 (some .int) [(0, 11, 14, 19)] : Jvm.Cond) ∈ WS := WS_t2 129 (by eq_refl) (by eq_refl)
theorem wk_425 : (.methodLink RL 178 yL_setSmall : Jvm.Cond) ∈ WS := WS_t2 127 (by eq_refl) (by eq_refl)
theorem wk_426 : (.static yL_setSmall : Jvm.Cond) ∈ WS := WS_t2 128 (by eq_refl) (by eq_refl)
theorem wk_1243 : (.code yX3_setSmall cX3_setSmall 4 (some .int) : Jvm.Cond) ∈ WS := WS_t5 225 (by eq_refl) (by eq_refl)
theorem wk_1240 : (.methodLink RL 181 yX3_setSmall : Jvm.Cond) ∈ WS := WS_t5 222 (by eq_refl) (by eq_refl)
theorem wk_1241 : (.instanceMethod yX3_setSmall : Jvm.Cond) ∈ WS := WS_t5 223 (by eq_refl) (by eq_refl)
theorem wk_1242 : (.selects RX3 yX3_setSmall yX3_setSmall : Jvm.Cond) ∈ WS := WS_t5 224 (by eq_refl) (by eq_refl)
theorem wk_434 : (.codeWith yL_setEnd cL_setEnd 5 (some .int) [(0, 11, 14, 19), (0, 11, 18, 28)] : Jvm.Cond) ∈ WS := WS_t2 136 (by eq_refl) (by eq_refl)
theorem wk_432 : (.methodLink RL 182 yL_setEnd : Jvm.Cond) ∈ WS := WS_t2 134 (by eq_refl) (by eq_refl)
theorem wk_433 : (.static yL_setEnd : Jvm.Cond) ∈ WS := WS_t2 135 (by eq_refl) (by eq_refl)
theorem wk_1251 : (.code yX3_setEnd cX3_setEnd 4 (some .int) : Jvm.Cond) ∈ WS := WS_t5 233 (by eq_refl) (by eq_refl)
theorem wk_1248 : (.methodLink RL 184 yX3_setEnd : Jvm.Cond) ∈ WS := WS_t5 230 (by eq_refl) (by eq_refl)
theorem wk_1249 : (.instanceMethod yX3_setEnd : Jvm.Cond) ∈ WS := WS_t5 231 (by eq_refl) (by eq_refl)
theorem wk_1250 : (.selects RX3 yX3_setEnd yX3_setEnd : Jvm.Cond) ∈ WS := WS_t5 232 (by eq_refl) (by eq_refl)
theorem wk_470 : (.codeWith yL_move cL_move 5 (some .int) [(0, 11, 14, 19)] : Jvm.Cond) ∈ WS := WS_t2 172 (by eq_refl) (by eq_refl)
theorem wk_468 : (.methodLink RL 185 yL_move : Jvm.Cond) ∈ WS := WS_t2 170 (by eq_refl) (by eq_refl)
theorem wk_469 : (.static yL_move : Jvm.Cond) ∈ WS := WS_t2 171 (by eq_refl) (by eq_refl)
theorem wk_1262 : (.code yX3_move cX3_move 3 (some .int) : Jvm.Cond) ∈ WS := WS_t6 4 (by eq_refl) (by eq_refl)
theorem wk_1259 : (.methodLink RL 187 yX3_move : Jvm.Cond) ∈ WS := WS_t6 1 (by eq_refl) (by eq_refl)
theorem wk_1260 : (.instanceMethod yX3_move : Jvm.Cond) ∈ WS := WS_t6 2 (by eq_refl) (by eq_refl)
theorem wk_1261 : (.selects RX3 yX3_move yX3_move : Jvm.Cond) ∈ WS := WS_t6 3 (by eq_refl) (by eq_refl)
theorem wk_477 : (.codeWith yL_copy cL_copy 5 (some .int) [(0, 11, 14, 19)] : Jvm.Cond) ∈ WS := WS_t2 179 (by eq_refl) (by eq_refl)
theorem wk_475 : (.methodLink RL 188 yL_copy : Jvm.Cond) ∈ WS := WS_t2 177 (by eq_refl) (by eq_refl)
theorem wk_476 : (.static yL_copy : Jvm.Cond) ∈ WS := WS_t2 178 (by eq_refl) (by eq_refl)
theorem wk_1266 : (.code yX3_copy cX3_copy 3 (some .int) : Jvm.Cond) ∈ WS := WS_t6 8 (by eq_refl) (by eq_refl)
theorem wk_1263 : (.methodLink RL 190 yX3_copy : Jvm.Cond) ∈ WS := WS_t6 5 (by eq_refl) (by eq_refl)
theorem wk_1264 : (.instanceMethod yX3_copy : Jvm.Cond) ∈ WS := WS_t6 6 (by eq_refl) (by eq_refl)
theorem wk_1265 : (.selects RX3 yX3_copy yX3_copy : Jvm.Cond) ∈ WS := WS_t6 7 (by eq_refl) (by eq_refl)
theorem wk_484 : (.codeWith yL_ofNumber cL_ofNumber 5 (some .int) [(0, 11, 14, 19)] : Jvm.Cond) ∈ WS := WS_t2 186 (by eq_refl) (by eq_refl)
theorem wk_482 : (.methodLink RL 191 yL_ofNumber : Jvm.Cond) ∈ WS := WS_t2 184 (by eq_refl) (by eq_refl)
theorem wk_483 : (.static yL_ofNumber : Jvm.Cond) ∈ WS := WS_t2 185 (by eq_refl) (by eq_refl)
theorem wk_1270 : (.code yX3_ofNumber cX3_ofNumber 3 (some .int) : Jvm.Cond) ∈ WS := WS_t6 12 (by eq_refl) (by eq_refl)
theorem wk_1267 : (.methodLink RL 194 yX3_ofNumber : Jvm.Cond) ∈ WS := WS_t6 9 (by eq_refl) (by eq_refl)
theorem wk_1268 : (.instanceMethod yX3_ofNumber : Jvm.Cond) ∈ WS := WS_t6 10 (by eq_refl) (by eq_refl)
theorem wk_1269 : (.selects RX3 yX3_ofNumber yX3_ofNumber : Jvm.Cond) ∈ WS := WS_t6 11 (by eq_refl) (by eq_refl)
theorem wk_494 : (.codeWith yL_numberText cL_numberText 4 (some .int) [(0, 9, 12, 19)] : Jvm.Cond) ∈ WS := WS_t2 196 (by eq_refl) (by eq_refl)
theorem wk_492 : (.methodLink RL 195 yL_numberText : Jvm.Cond) ∈ WS := WS_t2 194 (by eq_refl) (by eq_refl)
theorem wk_493 : (.static yL_numberText : Jvm.Cond) ∈ WS := WS_t2 195 (by eq_refl) (by eq_refl)
theorem wk_1274 : (.code yX3_numberText cX3_numberText 2 (some (.object "java/lang/String")) : Jvm.Cond) ∈ WS := WS_t6 16 (by eq_refl) (by eq_refl)
theorem wk_1271 : (.methodLink RL 198 yX3_numberText : Jvm.Cond) ∈ WS := WS_t6 13 (by eq_refl) (by eq_refl)
theorem wk_1272 : (.instanceMethod yX3_numberText : Jvm.Cond) ∈ WS := WS_t6 14 (by eq_refl) (by eq_refl)
theorem wk_1273 : (.selects RX3 yX3_numberText yX3_numberText : Jvm.Cond) ∈ WS := WS_t6 15 (by eq_refl) (by eq_refl)
theorem wk_804 : (.codeWith yL_order cL_order 5 (some .int) [(0, 11, 14, 19)] : Jvm.Cond) ∈ WS := WS_t4 26 (by eq_refl) (by eq_refl)
theorem wk_802 : (.methodLink RL 199 yL_order : Jvm.Cond) ∈ WS := WS_t4 24 (by eq_refl) (by eq_refl)
theorem wk_803 : (.static yL_order : Jvm.Cond) ∈ WS := WS_t4 25 (by eq_refl) (by eq_refl)
theorem wk_1310 : (.code yX3_order cX3_order 3 (some .int) : Jvm.Cond) ∈ WS := WS_t6 52 (by eq_refl) (by eq_refl)
theorem wk_1307 : (.methodLink RL 201 yX3_order : Jvm.Cond) ∈ WS := WS_t6 49 (by eq_refl) (by eq_refl)
theorem wk_1308 : (.instanceMethod yX3_order : Jvm.Cond) ∈ WS := WS_t6 50 (by eq_refl) (by eq_refl)
theorem wk_1309 : (.selects RX3 yX3_order yX3_order : Jvm.Cond) ∈ WS := WS_t6 51 (by eq_refl) (by eq_refl)
theorem wk_811 : (.codeWith yL_two cL_two 6 (some .int) [(0, 13, 16, 19)] : Jvm.Cond) ∈ WS := WS_t4 33 (by eq_refl) (by eq_refl)
theorem wk_809 : (.methodLink RL 202 yL_two : Jvm.Cond) ∈ WS := WS_t4 31 (by eq_refl) (by eq_refl)
theorem wk_810 : (.static yL_two : Jvm.Cond) ∈ WS := WS_t4 32 (by eq_refl) (by eq_refl)
theorem wk_1317 : (.code yX3_two cX3_two 4 (some .int) : Jvm.Cond) ∈ WS := WS_t6 59 (by eq_refl) (by eq_refl)
theorem wk_1314 : (.methodLink RL 204 yX3_two : Jvm.Cond) ∈ WS := WS_t6 56 (by eq_refl) (by eq_refl)
theorem wk_1315 : (.instanceMethod yX3_two : Jvm.Cond) ∈ WS := WS_t6 57 (by eq_refl) (by eq_refl)
theorem wk_1316 : (.selects RX3 yX3_two yX3_two : Jvm.Cond) ∈ WS := WS_t6 58 (by eq_refl) (by eq_refl)
theorem wk_830 : (.codeWith yL_three cL_three 7 (some .int) [(0, 15, 18, 19)] : Jvm.Cond) ∈ WS := WS_t4 52 (by eq_refl) (by eq_refl)
theorem wk_828 : (.methodLink RL 205 yL_three : Jvm.Cond) ∈ WS := WS_t4 50 (by eq_refl) (by eq_refl)
theorem wk_829 : (.static yL_three : Jvm.Cond) ∈ WS := WS_t4 51 (by eq_refl) (by eq_refl)
theorem wk_1347 : (.code yX3_three cX3_three 5 (some .int) : Jvm.Cond) ∈ WS := WS_t6 89 (by eq_refl) (by eq_refl)
theorem wk_1344 : (.methodLink RL 208 yX3_three : Jvm.Cond) ∈ WS := WS_t6 86 (by eq_refl) (by eq_refl)
theorem wk_1345 : (.instanceMethod yX3_three : Jvm.Cond) ∈ WS := WS_t6 87 (by eq_refl) (by eq_refl)
theorem wk_1346 : (.selects RX3 yX3_three yX3_three : Jvm.Cond) ∈ WS := WS_t6 88 (by eq_refl) (by eq_refl)
theorem wk_840 : (.codeWith yL_four cL_four 8 (some .int) [(0, 17, 20, 19)] : Jvm.Cond) ∈ WS := WS_t4 62 (by eq_refl) (by eq_refl)
theorem wk_838 : (.methodLink RL 209 yL_four : Jvm.Cond) ∈ WS := WS_t4 60 (by eq_refl) (by eq_refl)
theorem wk_839 : (.static yL_four : Jvm.Cond) ∈ WS := WS_t4 61 (by eq_refl) (by eq_refl)
theorem wk_1351 : (.code yX3_four cX3_four 6 (some .int) : Jvm.Cond) ∈ WS := WS_t6 93 (by eq_refl) (by eq_refl)
theorem wk_1348 : (.methodLink RL 212 yX3_four : Jvm.Cond) ∈ WS := WS_t6 90 (by eq_refl) (by eq_refl)
theorem wk_1349 : (.instanceMethod yX3_four : Jvm.Cond) ∈ WS := WS_t6 91 (by eq_refl) (by eq_refl)
theorem wk_1350 : (.selects RX3 yX3_four yX3_four : Jvm.Cond) ∈ WS := WS_t6 92 (by eq_refl) (by eq_refl)
theorem wk_847 : (.codeWith yL_twoSmall cL_twoSmall 6 (some .int) [(0, 13, 16, 19)] : Jvm.Cond) ∈ WS := WS_t4 69 (by eq_refl) (by eq_refl)
theorem wk_845 : (.methodLink RL 213 yL_twoSmall : Jvm.Cond) ∈ WS := WS_t4 67 (by eq_refl) (by eq_refl)
theorem wk_846 : (.static yL_twoSmall : Jvm.Cond) ∈ WS := WS_t4 68 (by eq_refl) (by eq_refl)
theorem wk_1355 : (.code yX3_twoSmall cX3_twoSmall 4 (some .int) : Jvm.Cond) ∈ WS := WS_t6 97 (by eq_refl) (by eq_refl)
theorem wk_1352 : (.methodLink RL 215 yX3_twoSmall : Jvm.Cond) ∈ WS := WS_t6 94 (by eq_refl) (by eq_refl)
theorem wk_1353 : (.instanceMethod yX3_twoSmall : Jvm.Cond) ∈ WS := WS_t6 95 (by eq_refl) (by eq_refl)
theorem wk_1354 : (.selects RX3 yX3_twoSmall yX3_twoSmall : Jvm.Cond) ∈ WS := WS_t6 96 (by eq_refl) (by eq_refl)
theorem wk_854 : (.codeWith yL_threeSmall cL_threeSmall 7 (some .int) [(0, 15, 18, 19)] : Jvm.Cond) ∈ WS := WS_t4 76 (by eq_refl) (by eq_refl)
theorem wk_852 : (.methodLink RL 216 yL_threeSmall : Jvm.Cond) ∈ WS := WS_t4 74 (by eq_refl) (by eq_refl)
theorem wk_853 : (.static yL_threeSmall : Jvm.Cond) ∈ WS := WS_t4 75 (by eq_refl) (by eq_refl)
theorem wk_1359 : (.code yX3_threeSmall cX3_threeSmall 5 (some .int) : Jvm.Cond) ∈ WS := WS_t6 101 (by eq_refl) (by eq_refl)
theorem wk_1356 : (.methodLink RL 218 yX3_threeSmall : Jvm.Cond) ∈ WS := WS_t6 98 (by eq_refl) (by eq_refl)
theorem wk_1357 : (.instanceMethod yX3_threeSmall : Jvm.Cond) ∈ WS := WS_t6 99 (by eq_refl) (by eq_refl)
theorem wk_1358 : (.selects RX3 yX3_threeSmall yX3_threeSmall : Jvm.Cond) ∈ WS := WS_t6 100 (by eq_refl) (by eq_refl)
theorem wk_861 : (.codeWith yL_fourSmall cL_fourSmall 8 (some .int) [(0, 17, 20, 19)] : Jvm.Cond) ∈ WS := WS_t4 83 (by eq_refl) (by eq_refl)
theorem wk_859 : (.methodLink RL 219 yL_fourSmall : Jvm.Cond) ∈ WS := WS_t4 81 (by eq_refl) (by eq_refl)
theorem wk_860 : (.static yL_fourSmall : Jvm.Cond) ∈ WS := WS_t4 82 (by eq_refl) (by eq_refl)
theorem wk_1363 : (.code yX3_fourSmall cX3_fourSmall 6 (some .int) : Jvm.Cond) ∈ WS := WS_t6 105 (by eq_refl) (by eq_refl)
theorem wk_1360 : (.methodLink RL 221 yX3_fourSmall : Jvm.Cond) ∈ WS := WS_t6 102 (by eq_refl) (by eq_refl)
theorem wk_1361 : (.instanceMethod yX3_fourSmall : Jvm.Cond) ∈ WS := WS_t6 103 (by eq_refl) (by eq_refl)
theorem wk_1362 : (.selects RX3 yX3_fourSmall yX3_fourSmall : Jvm.Cond) ∈ WS := WS_t6 104 (by eq_refl) (by eq_refl)
theorem wk_868 : (.codeWith yL_again cL_again 5 (some .int) [(0, 11, 14, 19), (0, 11, 18, 74)] : Jvm.Cond) ∈ WS := WS_t4 90 (by eq_refl) (by eq_refl)
theorem wk_866 : (.methodLink RL 222 yL_again : Jvm.Cond) ∈ WS := WS_t4 88 (by eq_refl) (by eq_refl)
theorem wk_867 : (.static yL_again : Jvm.Cond) ∈ WS := WS_t4 89 (by eq_refl) (by eq_refl)
theorem wk_1367 : (.code yX3_again cX3_again 10 (some .int) : Jvm.Cond) ∈ WS := WS_t6 109 (by eq_refl) (by eq_refl)
theorem wk_1364 : (.methodLink RL 224 yX3_again : Jvm.Cond) ∈ WS := WS_t6 106 (by eq_refl) (by eq_refl)
theorem wk_1365 : (.instanceMethod yX3_again : Jvm.Cond) ∈ WS := WS_t6 107 (by eq_refl) (by eq_refl)
theorem wk_1366 : (.selects RX3 yX3_again yX3_again : Jvm.Cond) ∈ WS := WS_t6 108 (by eq_refl) (by eq_refl)
theorem wk_902 : (.codeWith yL_same cL_same 5 (some .int) [(0, 11, 14, 19), (0, 11, 18, 74)] : Jvm.Cond) ∈ WS := WS_t4 124 (by eq_refl) (by eq_refl)
theorem wk_900 : (.methodLink RL 225 yL_same : Jvm.Cond) ∈ WS := WS_t4 122 (by eq_refl) (by eq_refl)
theorem wk_901 : (.static yL_same : Jvm.Cond) ∈ WS := WS_t4 123 (by eq_refl) (by eq_refl)
theorem wk_1384 : (.code yX3_same_ cX3_same_ 4 (some .int) : Jvm.Cond) ∈ WS := WS_t6 126 (by eq_refl) (by eq_refl)
theorem wk_1381 : (.methodLink RL 227 yX3_same_ : Jvm.Cond) ∈ WS := WS_t6 123 (by eq_refl) (by eq_refl)
theorem wk_1382 : (.instanceMethod yX3_same_ : Jvm.Cond) ∈ WS := WS_t6 124 (by eq_refl) (by eq_refl)
theorem wk_1383 : (.selects RX3 yX3_same_ yX3_same_ : Jvm.Cond) ∈ WS := WS_t6 125 (by eq_refl) (by eq_refl)
theorem wk_909 : (.codeWith yL_outer cL_outer 5 (some .int) [(0, 11, 14, 19), (0, 11, 18, 74)] : Jvm.Cond) ∈ WS := WS_t4 131 (by eq_refl) (by eq_refl)
theorem wk_907 : (.methodLink RL 228 yL_outer : Jvm.Cond) ∈ WS := WS_t4 129 (by eq_refl) (by eq_refl)
theorem wk_908 : (.static yL_outer : Jvm.Cond) ∈ WS := WS_t4 130 (by eq_refl) (by eq_refl)
theorem wk_1391 : (.code yX3_outer cX3_outer 4 (some .int) : Jvm.Cond) ∈ WS := WS_t6 133 (by eq_refl) (by eq_refl)
theorem wk_1388 : (.methodLink RL 230 yX3_outer : Jvm.Cond) ∈ WS := WS_t6 130 (by eq_refl) (by eq_refl)
theorem wk_1389 : (.instanceMethod yX3_outer : Jvm.Cond) ∈ WS := WS_t6 131 (by eq_refl) (by eq_refl)
theorem wk_1390 : (.selects RX3 yX3_outer yX3_outer : Jvm.Cond) ∈ WS := WS_t6 132 (by eq_refl) (by eq_refl)
theorem wk_916 : (.codeWith yL_inner cL_inner 5 (some .int) [(0, 11, 14, 19), (0, 11, 18, 74)] : Jvm.Cond) ∈ WS := WS_t4 138 (by eq_refl) (by eq_refl)
theorem wk_914 : (.methodLink RL 231 yL_inner : Jvm.Cond) ∈ WS := WS_t4 136 (by eq_refl) (by eq_refl)
theorem wk_915 : (.static yL_inner : Jvm.Cond) ∈ WS := WS_t4 137 (by eq_refl) (by eq_refl)
theorem wk_1398 : (.code yX3_inner cX3_inner 4 (some .int) : Jvm.Cond) ∈ WS := WS_t6 140 (by eq_refl) (by eq_refl)
theorem wk_1395 : (.methodLink RL 233 yX3_inner : Jvm.Cond) ∈ WS := WS_t6 137 (by eq_refl) (by eq_refl)
theorem wk_1396 : (.instanceMethod yX3_inner : Jvm.Cond) ∈ WS := WS_t6 138 (by eq_refl) (by eq_refl)
theorem wk_1397 : (.selects RX3 yX3_inner yX3_inner : Jvm.Cond) ∈ WS := WS_t6 139 (by eq_refl) (by eq_refl)
theorem wk_923 : (.codeWith yL_span cL_span 6 (some .int) [(0, 13, 16, 19), (0, 13, 20, 74)] : Jvm.Cond) ∈ WS := WS_t4 145 (by eq_refl) (by eq_refl)
theorem wk_921 : (.methodLink RL 234 yL_span : Jvm.Cond) ∈ WS := WS_t4 143 (by eq_refl) (by eq_refl)
theorem wk_922 : (.static yL_span : Jvm.Cond) ∈ WS := WS_t4 144 (by eq_refl) (by eq_refl)
theorem wk_1402 : (.code yX3_span cX3_span 4 (some .int) : Jvm.Cond) ∈ WS := WS_t6 144 (by eq_refl) (by eq_refl)
theorem wk_1399 : (.methodLink RL 236 yX3_span : Jvm.Cond) ∈ WS := WS_t6 141 (by eq_refl) (by eq_refl)
theorem wk_1400 : (.instanceMethod yX3_span : Jvm.Cond) ∈ WS := WS_t6 142 (by eq_refl) (by eq_refl)
theorem wk_1401 : (.selects RX3 yX3_span yX3_span : Jvm.Cond) ∈ WS := WS_t6 143 (by eq_refl) (by eq_refl)
theorem wk_930 : (.codeWith yL_shift cL_shift 5 (some .int) [(0, 11, 14, 19), (0, 11, 18, 74)] : Jvm.Cond) ∈ WS := WS_t4 152 (by eq_refl) (by eq_refl)
theorem wk_928 : (.methodLink RL 237 yL_shift : Jvm.Cond) ∈ WS := WS_t4 150 (by eq_refl) (by eq_refl)
theorem wk_929 : (.static yL_shift : Jvm.Cond) ∈ WS := WS_t4 151 (by eq_refl) (by eq_refl)
theorem wk_1406 : (.code yX3_shift cX3_shift 4 (some .int) : Jvm.Cond) ∈ WS := WS_t6 148 (by eq_refl) (by eq_refl)
theorem wk_1403 : (.methodLink RL 239 yX3_shift : Jvm.Cond) ∈ WS := WS_t6 145 (by eq_refl) (by eq_refl)
theorem wk_1404 : (.instanceMethod yX3_shift : Jvm.Cond) ∈ WS := WS_t6 146 (by eq_refl) (by eq_refl)
theorem wk_1405 : (.selects RX3 yX3_shift yX3_shift : Jvm.Cond) ∈ WS := WS_t6 147 (by eq_refl) (by eq_refl)
theorem wk_937 : (.codeWith yL_drop cL_drop 4 (some .int) [(0, 10, 13, 19)] : Jvm.Cond) ∈ WS := WS_t4 159 (by eq_refl) (by eq_refl)
theorem wk_935 : (.methodLink RL 240 yL_drop : Jvm.Cond) ∈ WS := WS_t4 157 (by eq_refl) (by eq_refl)
theorem wk_936 : (.static yL_drop : Jvm.Cond) ∈ WS := WS_t4 158 (by eq_refl) (by eq_refl)
theorem wk_1414 : (.code yX3_drop cX3_drop 3 (some .int) : Jvm.Cond) ∈ WS := WS_t6 156 (by eq_refl) (by eq_refl)
theorem wk_1411 : (.methodLink RL 242 yX3_drop : Jvm.Cond) ∈ WS := WS_t6 153 (by eq_refl) (by eq_refl)
theorem wk_1412 : (.instanceMethod yX3_drop : Jvm.Cond) ∈ WS := WS_t6 154 (by eq_refl) (by eq_refl)
theorem wk_1413 : (.selects RX3 yX3_drop yX3_drop : Jvm.Cond) ∈ WS := WS_t6 155 (by eq_refl) (by eq_refl)
theorem wk_944 : (.codeWith yL_isThere cL_isThere 4 (some .int) [(0, 17, 20, 19)] : Jvm.Cond) ∈ WS := WS_t4 166 (by eq_refl) (by eq_refl)
theorem wk_942 : (.methodLink RL 243 yL_isThere : Jvm.Cond) ∈ WS := WS_t4 164 (by eq_refl) (by eq_refl)
theorem wk_943 : (.static yL_isThere : Jvm.Cond) ∈ WS := WS_t4 165 (by eq_refl) (by eq_refl)
theorem wk_1418 : (.code yX3_isThere cX3_isThere 2 (some .boolean) : Jvm.Cond) ∈ WS := WS_t6 160 (by eq_refl) (by eq_refl)
theorem wk_1415 : (.methodLink RL 245 yX3_isThere : Jvm.Cond) ∈ WS := WS_t6 157 (by eq_refl) (by eq_refl)
theorem wk_1416 : (.instanceMethod yX3_isThere : Jvm.Cond) ∈ WS := WS_t6 158 (by eq_refl) (by eq_refl)
theorem wk_1417 : (.selects RX3 yX3_isThere yX3_isThere : Jvm.Cond) ∈ WS := WS_t6 159 (by eq_refl) (by eq_refl)
theorem wk_951 : (.codeWith yL_isFixed cL_isFixed 4 (some .int) [(0, 17, 20, 19), (0, 17, 23, 74)] : Jvm.Cond) ∈ WS := WS_t4 173 (by eq_refl) (by eq_refl)
theorem wk_949 : (.methodLink RL 246 yL_isFixed : Jvm.Cond) ∈ WS := WS_t4 171 (by eq_refl) (by eq_refl)
theorem wk_950 : (.static yL_isFixed : Jvm.Cond) ∈ WS := WS_t4 172 (by eq_refl) (by eq_refl)
theorem wk_1422 : (.code yX3_isFixed cX3_isFixed 2 (some .boolean) : Jvm.Cond) ∈ WS := WS_t6 164 (by eq_refl) (by eq_refl)
theorem wk_1419 : (.methodLink RL 248 yX3_isFixed : Jvm.Cond) ∈ WS := WS_t6 161 (by eq_refl) (by eq_refl)
theorem wk_1420 : (.instanceMethod yX3_isFixed : Jvm.Cond) ∈ WS := WS_t6 162 (by eq_refl) (by eq_refl)
theorem wk_1421 : (.selects RX3 yX3_isFixed yX3_isFixed : Jvm.Cond) ∈ WS := WS_t6 163 (by eq_refl) (by eq_refl)
theorem wk_958 : (.codeWith yL_isSmall cL_isSmall 4 (some .int) [(0, 17, 20, 19), (0, 17, 23, 74)] : Jvm.Cond) ∈ WS := WS_t4 180 (by eq_refl) (by eq_refl)
theorem wk_956 : (.methodLink RL 249 yL_isSmall : Jvm.Cond) ∈ WS := WS_t4 178 (by eq_refl) (by eq_refl)
theorem wk_957 : (.static yL_isSmall : Jvm.Cond) ∈ WS := WS_t4 179 (by eq_refl) (by eq_refl)
theorem wk_1426 : (.code yX3_isSmall cX3_isSmall 2 (some .boolean) : Jvm.Cond) ∈ WS := WS_t6 168 (by eq_refl) (by eq_refl)
theorem wk_1423 : (.methodLink RL 251 yX3_isSmall : Jvm.Cond) ∈ WS := WS_t6 165 (by eq_refl) (by eq_refl)
theorem wk_1424 : (.instanceMethod yX3_isSmall : Jvm.Cond) ∈ WS := WS_t6 166 (by eq_refl) (by eq_refl)
theorem wk_1425 : (.selects RX3 yX3_isSmall yX3_isSmall : Jvm.Cond) ∈ WS := WS_t6 167 (by eq_refl) (by eq_refl)
theorem wk_965 : (.codeWith yL_end cL_end 6 (some .int) [(0, 13, 16, 19), (0, 13, 20, 28), (0, 13, 24, 74)] : Jvm.Cond) ∈ WS := WS_t4 187 (by eq_refl) (by eq_refl)
theorem wk_963 : (.methodLink RL 252 yL_end : Jvm.Cond) ∈ WS := WS_t4 185 (by eq_refl) (by eq_refl)
theorem wk_964 : (.static yL_end : Jvm.Cond) ∈ WS := WS_t4 186 (by eq_refl) (by eq_refl)
theorem wk_1433 : (.code yX3_end cX3_end 4 (some .int) : Jvm.Cond) ∈ WS := WS_t6 175 (by eq_refl) (by eq_refl)
theorem wk_1430 : (.methodLink RL 255 yX3_end : Jvm.Cond) ∈ WS := WS_t6 172 (by eq_refl) (by eq_refl)
theorem wk_1431 : (.instanceMethod yX3_end : Jvm.Cond) ∈ WS := WS_t6 173 (by eq_refl) (by eq_refl)
theorem wk_1432 : (.selects RX3 yX3_end yX3_end : Jvm.Cond) ∈ WS := WS_t6 174 (by eq_refl) (by eq_refl)
theorem wk_972 : (.codeWith yL_take cL_take 6 (some .int) [(0, 13, 16, 19), (0, 13, 20, 28), (0, 13, 24, 74)] : Jvm.Cond) ∈ WS := WS_t4 194 (by eq_refl) (by eq_refl)
theorem wk_970 : (.methodLink RL 256 yL_take : Jvm.Cond) ∈ WS := WS_t4 192 (by eq_refl) (by eq_refl)
theorem wk_971 : (.static yL_take : Jvm.Cond) ∈ WS := WS_t4 193 (by eq_refl) (by eq_refl)
theorem wk_1444 : (.code yX3_take cX3_take 4 (some .int) : Jvm.Cond) ∈ WS := WS_t6 186 (by eq_refl) (by eq_refl)
theorem wk_1441 : (.methodLink RL 258 yX3_take : Jvm.Cond) ∈ WS := WS_t6 183 (by eq_refl) (by eq_refl)
theorem wk_1442 : (.instanceMethod yX3_take : Jvm.Cond) ∈ WS := WS_t6 184 (by eq_refl) (by eq_refl)
theorem wk_1443 : (.selects RX3 yX3_take yX3_take : Jvm.Cond) ∈ WS := WS_t6 185 (by eq_refl) (by eq_refl)
theorem wk_979 : (.codeWith yL_cardText cL_cardText 4 (some .int) [(0, 9, 12, 19)] : Jvm.Cond) ∈ WS := WS_t4 201 (by eq_refl) (by eq_refl)
theorem wk_977 : (.methodLink RL 259 yL_cardText : Jvm.Cond) ∈ WS := WS_t4 199 (by eq_refl) (by eq_refl)
theorem wk_978 : (.static yL_cardText : Jvm.Cond) ∈ WS := WS_t4 200 (by eq_refl) (by eq_refl)
theorem wk_1448 : (.code yX3_cardText cX3_cardText 3 (some (.object "java/lang/String")) : Jvm.Cond) ∈ WS := WS_t6 190 (by eq_refl) (by eq_refl)
theorem wk_1445 : (.methodLink RL 261 yX3_cardText : Jvm.Cond) ∈ WS := WS_t6 187 (by eq_refl) (by eq_refl)
theorem wk_1446 : (.instanceMethod yX3_cardText : Jvm.Cond) ∈ WS := WS_t6 188 (by eq_refl) (by eq_refl)
theorem wk_1447 : (.selects RX3 yX3_cardText yX3_cardText : Jvm.Cond) ∈ WS := WS_t6 189 (by eq_refl) (by eq_refl)
theorem wk_987 : (.codeWith yL_isValid cL_isValid 5 (some .int) [(0, 18, 21, 19), (0, 18, 25, 74)] : Jvm.Cond) ∈ WS := WS_t4 209 (by eq_refl) (by eq_refl)
theorem wk_985 : (.methodLink RL 262 yL_isValid : Jvm.Cond) ∈ WS := WS_t4 207 (by eq_refl) (by eq_refl)
theorem wk_986 : (.static yL_isValid : Jvm.Cond) ∈ WS := WS_t4 208 (by eq_refl) (by eq_refl)
theorem wk_1454 : (.code yX3_isValid cX3_isValid 3 (some .boolean) : Jvm.Cond) ∈ WS := WS_t6 196 (by eq_refl) (by eq_refl)
theorem wk_1451 : (.methodLink RL 264 yX3_isValid : Jvm.Cond) ∈ WS := WS_t6 193 (by eq_refl) (by eq_refl)
theorem wk_1452 : (.instanceMethod yX3_isValid : Jvm.Cond) ∈ WS := WS_t6 194 (by eq_refl) (by eq_refl)
theorem wk_1453 : (.selects RX3 yX3_isValid yX3_isValid : Jvm.Cond) ∈ WS := WS_t6 195 (by eq_refl) (by eq_refl)
theorem wk_994 : (.codeWith yL_isValidSmall cL_isValidSmall 5 (some .int) [(0, 18, 21, 19), (0, 18, 25, 74)] : Jvm.Cond) ∈ WS := WS_t4 216 (by eq_refl) (by eq_refl)
theorem wk_992 : (.methodLink RL 265 yL_isValidSmall : Jvm.Cond) ∈ WS := WS_t4 214 (by eq_refl) (by eq_refl)
theorem wk_993 : (.static yL_isValidSmall : Jvm.Cond) ∈ WS := WS_t4 215 (by eq_refl) (by eq_refl)
theorem wk_1465 : (.code yX3_isValidSmall cX3_isValidSmall 3 (some .boolean) : Jvm.Cond) ∈ WS := WS_t6 207 (by eq_refl) (by eq_refl)
theorem wk_1462 : (.methodLink RL 267 yX3_isValidSmall : Jvm.Cond) ∈ WS := WS_t6 204 (by eq_refl) (by eq_refl)
theorem wk_1463 : (.instanceMethod yX3_isValidSmall : Jvm.Cond) ∈ WS := WS_t6 205 (by eq_refl) (by eq_refl)
theorem wk_1464 : (.selects RX3 yX3_isValidSmall yX3_isValidSmall : Jvm.Cond) ∈ WS := WS_t6 206 (by eq_refl) (by eq_refl)
theorem wk_1001 : (.codeWith yL_whichValid cL_whichValid 5 (some .int) [(0, 11, 14, 19), (0, 11, 18, 74)] : Jvm.Cond) ∈ WS := WS_t4 223 (by eq_refl) (by eq_refl)
theorem wk_999 : (.methodLink RL 268 yL_whichValid : Jvm.Cond) ∈ WS := WS_t4 221 (by eq_refl) (by eq_refl)
theorem wk_1000 : (.static yL_whichValid : Jvm.Cond) ∈ WS := WS_t4 222 (by eq_refl) (by eq_refl)
theorem wk_1469 : (.code yX3_whichValid cX3_whichValid 3 (some .int) : Jvm.Cond) ∈ WS := WS_t6 211 (by eq_refl) (by eq_refl)
theorem wk_1466 : (.methodLink RL 270 yX3_whichValid : Jvm.Cond) ∈ WS := WS_t6 208 (by eq_refl) (by eq_refl)
theorem wk_1467 : (.instanceMethod yX3_whichValid : Jvm.Cond) ∈ WS := WS_t6 209 (by eq_refl) (by eq_refl)
theorem wk_1468 : (.selects RX3 yX3_whichValid yX3_whichValid : Jvm.Cond) ∈ WS := WS_t6 210 (by eq_refl) (by eq_refl)
theorem wk_1008 : (.codeWith yL_around cL_around 6 (some .int) [(0, 13, 16, 19), (0, 13, 20, 28), (0, 13, 24, 74)] : Jvm.Cond) ∈ WS := WS_t4 230 (by eq_refl) (by eq_refl)
theorem wk_1006 : (.methodLink RL 271 yL_around : Jvm.Cond) ∈ WS := WS_t4 228 (by eq_refl) (by eq_refl)
theorem wk_1007 : (.static yL_around : Jvm.Cond) ∈ WS := WS_t4 229 (by eq_refl) (by eq_refl)
theorem wk_1476 : (.code yX3_around cX3_around 4 (some .int) : Jvm.Cond) ∈ WS := WS_t6 218 (by eq_refl) (by eq_refl)
theorem wk_1473 : (.methodLink RL 273 yX3_around : Jvm.Cond) ∈ WS := WS_t6 215 (by eq_refl) (by eq_refl)
theorem wk_1474 : (.instanceMethod yX3_around : Jvm.Cond) ∈ WS := WS_t6 216 (by eq_refl) (by eq_refl)
theorem wk_1475 : (.selects RX3 yX3_around yX3_around : Jvm.Cond) ∈ WS := WS_t6 217 (by eq_refl) (by eq_refl)
theorem wk_1015 : (.codeWith yL_count cL_count 6 (some .int) [(0, 13, 16, 19), (0, 13, 20, 28), (0, 13, 24, 74)] : Jvm.Cond) ∈ WS := WS_t4 237 (by eq_refl) (by eq_refl)
theorem wk_1013 : (.methodLink RL 274 yL_count : Jvm.Cond) ∈ WS := WS_t4 235 (by eq_refl) (by eq_refl)
theorem wk_1014 : (.static yL_count : Jvm.Cond) ∈ WS := WS_t4 236 (by eq_refl) (by eq_refl)
theorem wk_1483 : (.code yX3_count cX3_count 6 (some .int) : Jvm.Cond) ∈ WS := WS_t6 225 (by eq_refl) (by eq_refl)
theorem wk_1480 : (.methodLink RL 276 yX3_count : Jvm.Cond) ∈ WS := WS_t6 222 (by eq_refl) (by eq_refl)
theorem wk_1481 : (.instanceMethod yX3_count : Jvm.Cond) ∈ WS := WS_t6 223 (by eq_refl) (by eq_refl)
theorem wk_1482 : (.selects RX3 yX3_count yX3_count : Jvm.Cond) ∈ WS := WS_t6 224 (by eq_refl) (by eq_refl)
theorem wk_1023 : (.codeWith yL_who cL_who 5 (some .int) [(0, 11, 14, 19), (0, 11, 18, 28)] : Jvm.Cond) ∈ WS := WS_t5 5 (by eq_refl) (by eq_refl)
theorem wk_1021 : (.methodLink RL 277 yL_who : Jvm.Cond) ∈ WS := WS_t5 3 (by eq_refl) (by eq_refl)
theorem wk_1022 : (.static yL_who : Jvm.Cond) ∈ WS := WS_t5 4 (by eq_refl) (by eq_refl)
theorem wk_1487 : (.code yX3_who cX3_who 3 (some .int) : Jvm.Cond) ∈ WS := WS_t6 229 (by eq_refl) (by eq_refl)
theorem wk_1484 : (.methodLink RL 279 yX3_who : Jvm.Cond) ∈ WS := WS_t6 226 (by eq_refl) (by eq_refl)
theorem wk_1485 : (.instanceMethod yX3_who : Jvm.Cond) ∈ WS := WS_t6 227 (by eq_refl) (by eq_refl)
theorem wk_1486 : (.selects RX3 yX3_who yX3_who : Jvm.Cond) ∈ WS := WS_t6 228 (by eq_refl) (by eq_refl)
theorem wk_1030 : (.codeWith yL_which cL_which 4 (some .int) [(0, 10, 13, 28)] : Jvm.Cond) ∈ WS := WS_t5 12 (by eq_refl) (by eq_refl)
theorem wk_1028 : (.methodLink RL 280 yL_which : Jvm.Cond) ∈ WS := WS_t5 10 (by eq_refl) (by eq_refl)
theorem wk_1029 : (.static yL_which : Jvm.Cond) ∈ WS := WS_t5 11 (by eq_refl) (by eq_refl)
theorem wk_1495 : (.code yX3_which cX3_which 2 (some .int) : Jvm.Cond) ∈ WS := WS_t6 237 (by eq_refl) (by eq_refl)
theorem wk_1492 : (.methodLink RL 282 yX3_which : Jvm.Cond) ∈ WS := WS_t6 234 (by eq_refl) (by eq_refl)
theorem wk_1493 : (.instanceMethod yX3_which : Jvm.Cond) ∈ WS := WS_t6 235 (by eq_refl) (by eq_refl)
theorem wk_1494 : (.selects RX3 yX3_which yX3_which : Jvm.Cond) ∈ WS := WS_t6 236 (by eq_refl) (by eq_refl)
theorem wk_1217 : (.code yX3_thrown cX3_thrown 1 (some .int) : Jvm.Cond) ∈ WS := WS_t5 199 (by eq_refl) (by eq_refl)
theorem wk_1214 : (.methodLink RL 283 yX3_thrown : Jvm.Cond) ∈ WS := WS_t5 196 (by eq_refl) (by eq_refl)
theorem wk_1215 : (.instanceMethod yX3_thrown : Jvm.Cond) ∈ WS := WS_t5 197 (by eq_refl) (by eq_refl)
theorem wk_1216 : (.selects RX3 yX3_thrown yX3_thrown : Jvm.Cond) ∈ WS := WS_t5 198 (by eq_refl) (by eq_refl)
theorem wk_1037 : (.codeWith yL_areSame cL_areSame 5 (some .int) [(0, 18, 21, 19), (0, 18, 25, 74)] : Jvm.Cond) ∈ WS := WS_t5 19 (by eq_refl) (by eq_refl)
theorem wk_1035 : (.methodLink RL 287 yL_areSame : Jvm.Cond) ∈ WS := WS_t5 17 (by eq_refl) (by eq_refl)
theorem wk_1036 : (.static yL_areSame : Jvm.Cond) ∈ WS := WS_t5 18 (by eq_refl) (by eq_refl)
theorem wk_1503 : (.code yX3_areSame cX3_areSame 3 (some .boolean) : Jvm.Cond) ∈ WS := WS_t7 5 (by eq_refl) (by eq_refl)
theorem wk_1500 : (.methodLink RL 289 yX3_areSame : Jvm.Cond) ∈ WS := WS_t7 2 (by eq_refl) (by eq_refl)
theorem wk_1501 : (.instanceMethod yX3_areSame : Jvm.Cond) ∈ WS := WS_t7 3 (by eq_refl) (by eq_refl)
theorem wk_1502 : (.selects RX3 yX3_areSame yX3_areSame : Jvm.Cond) ∈ WS := WS_t7 4 (by eq_refl) (by eq_refl)
theorem wk_1044 : (.codeWith yL_isSameAs cL_isSameAs 5 (some .int) [(0, 18, 21, 19), (0, 18, 25, 28), (0, 18, 29, 74)] : Jvm.Cond) ∈ WS := WS_t5 26 (by eq_refl) (by eq_refl)
theorem wk_1042 : (.methodLink RL 290 yL_isSameAs : Jvm.Cond) ∈ WS := WS_t5 24 (by eq_refl) (by eq_refl)
theorem wk_1043 : (.static yL_isSameAs : Jvm.Cond) ∈ WS := WS_t5 25 (by eq_refl) (by eq_refl)
theorem wk_1507 : (.code yX3_isSameAs cX3_isSameAs 3 (some .boolean) : Jvm.Cond) ∈ WS := WS_t7 9 (by eq_refl) (by eq_refl)
theorem wk_1504 : (.methodLink RL 292 yX3_isSameAs : Jvm.Cond) ∈ WS := WS_t7 6 (by eq_refl) (by eq_refl)
theorem wk_1505 : (.instanceMethod yX3_isSameAs : Jvm.Cond) ∈ WS := WS_t7 7 (by eq_refl) (by eq_refl)
theorem wk_1506 : (.selects RX3 yX3_isSameAs yX3_isSameAs : Jvm.Cond) ∈ WS := WS_t7 8 (by eq_refl) (by eq_refl)
theorem wk_1051 : (.codeWith yL_likes cL_likes 4 (some .int) [(0, 10, 13, 19), (0, 10, 16, 74)] : Jvm.Cond) ∈ WS := WS_t5 33 (by eq_refl) (by eq_refl)
theorem wk_1049 : (.methodLink RL 293 yL_likes : Jvm.Cond) ∈ WS := WS_t5 31 (by eq_refl) (by eq_refl)
theorem wk_1050 : (.static yL_likes : Jvm.Cond) ∈ WS := WS_t5 32 (by eq_refl) (by eq_refl)
theorem wk_1511 : (.code yX3_likes cX3_likes 2 (some .int) : Jvm.Cond) ∈ WS := WS_t7 13 (by eq_refl) (by eq_refl)
theorem wk_1508 : (.methodLink RL 295 yX3_likes : Jvm.Cond) ∈ WS := WS_t7 10 (by eq_refl) (by eq_refl)
theorem wk_1509 : (.instanceMethod yX3_likes : Jvm.Cond) ∈ WS := WS_t7 11 (by eq_refl) (by eq_refl)
theorem wk_1510 : (.selects RX3 yX3_likes yX3_likes : Jvm.Cond) ∈ WS := WS_t7 12 (by eq_refl) (by eq_refl)
theorem wk_1058 : (.codeWith yL_lay cL_lay 4 (some .int) [(0, 10, 13, 19), (0, 10, 16, 74)] : Jvm.Cond) ∈ WS := WS_t5 40 (by eq_refl) (by eq_refl)
theorem wk_1056 : (.methodLink RL 296 yL_lay : Jvm.Cond) ∈ WS := WS_t5 38 (by eq_refl) (by eq_refl)
theorem wk_1057 : (.static yL_lay : Jvm.Cond) ∈ WS := WS_t5 39 (by eq_refl) (by eq_refl)
theorem wk_1519 : (.code yX3_lay cX3_lay 2 (some .int) : Jvm.Cond) ∈ WS := WS_t7 21 (by eq_refl) (by eq_refl)
theorem wk_1516 : (.methodLink RL 298 yX3_lay : Jvm.Cond) ∈ WS := WS_t7 18 (by eq_refl) (by eq_refl)
theorem wk_1517 : (.instanceMethod yX3_lay : Jvm.Cond) ∈ WS := WS_t7 19 (by eq_refl) (by eq_refl)
theorem wk_1518 : (.selects RX3 yX3_lay yX3_lay : Jvm.Cond) ∈ WS := WS_t7 20 (by eq_refl) (by eq_refl)
theorem wk_1065 : (.codeWith yL_seek cL_seek 5 (some .int) [(0, 11, 14, 19), (0, 11, 18, 74)] : Jvm.Cond) ∈ WS := WS_t5 47 (by eq_refl) (by eq_refl)
theorem wk_1063 : (.methodLink RL 299 yL_seek : Jvm.Cond) ∈ WS := WS_t5 45 (by eq_refl) (by eq_refl)
theorem wk_1064 : (.static yL_seek : Jvm.Cond) ∈ WS := WS_t5 46 (by eq_refl) (by eq_refl)
theorem wk_1527 : (.code yX3_seek cX3_seek 3 (some .int) : Jvm.Cond) ∈ WS := WS_t7 29 (by eq_refl) (by eq_refl)
theorem wk_1524 : (.methodLink RL 301 yX3_seek : Jvm.Cond) ∈ WS := WS_t7 26 (by eq_refl) (by eq_refl)
theorem wk_1525 : (.instanceMethod yX3_seek : Jvm.Cond) ∈ WS := WS_t7 27 (by eq_refl) (by eq_refl)
theorem wk_1526 : (.selects RX3 yX3_seek yX3_seek : Jvm.Cond) ∈ WS := WS_t7 28 (by eq_refl) (by eq_refl)
theorem wk_1072 : (.codeWith yL_howOften cL_howOften 4 (some .int) [(0, 10, 13, 19), (0, 10, 16, 74)] : Jvm.Cond) ∈ WS := WS_t5 54 (by eq_refl) (by eq_refl)
theorem wk_1070 : (.methodLink RL 302 yL_howOften : Jvm.Cond) ∈ WS := WS_t5 52 (by eq_refl) (by eq_refl)
theorem wk_1071 : (.static yL_howOften : Jvm.Cond) ∈ WS := WS_t5 53 (by eq_refl) (by eq_refl)
theorem wk_1535 : (.code yX3_howOften cX3_howOften 2 (some .int) : Jvm.Cond) ∈ WS := WS_t7 37 (by eq_refl) (by eq_refl)
theorem wk_1532 : (.methodLink RL 304 yX3_howOften : Jvm.Cond) ∈ WS := WS_t7 34 (by eq_refl) (by eq_refl)
theorem wk_1533 : (.instanceMethod yX3_howOften : Jvm.Cond) ∈ WS := WS_t7 35 (by eq_refl) (by eq_refl)
theorem wk_1534 : (.selects RX3 yX3_howOften yX3_howOften : Jvm.Cond) ∈ WS := WS_t7 36 (by eq_refl) (by eq_refl)
theorem wk_1079 : (.codeWith yL_lift cL_lift 4 (some .int) [(0, 10, 13, 19), (0, 10, 16, 74)] : Jvm.Cond) ∈ WS := WS_t5 61 (by eq_refl) (by eq_refl)
theorem wk_1077 : (.methodLink RL 305 yL_lift : Jvm.Cond) ∈ WS := WS_t5 59 (by eq_refl) (by eq_refl)
theorem wk_1078 : (.static yL_lift : Jvm.Cond) ∈ WS := WS_t5 60 (by eq_refl) (by eq_refl)
theorem wk_1589 : (.code yX3_lift cX3_lift 3 (some .int) : Jvm.Cond) ∈ WS := WS_t7 91 (by eq_refl) (by eq_refl)
theorem wk_1586 : (.methodLink RL 307 yX3_lift : Jvm.Cond) ∈ WS := WS_t7 88 (by eq_refl) (by eq_refl)
theorem wk_1587 : (.instanceMethod yX3_lift : Jvm.Cond) ∈ WS := WS_t7 89 (by eq_refl) (by eq_refl)
theorem wk_1588 : (.selects RX3 yX3_lift yX3_lift : Jvm.Cond) ∈ WS := WS_t7 90 (by eq_refl) (by eq_refl)
theorem wk_1090 : (.codeWith yL_pick cL_pick 5 (some .int) [(0, 11, 14, 19)] : Jvm.Cond) ∈ WS := WS_t5 72 (by eq_refl) (by eq_refl)
theorem wk_1088 : (.methodLink RL 308 yL_pick : Jvm.Cond) ∈ WS := WS_t5 70 (by eq_refl) (by eq_refl)
theorem wk_1089 : (.static yL_pick : Jvm.Cond) ∈ WS := WS_t5 71 (by eq_refl) (by eq_refl)
theorem wk_1602 : (.code yX3_pick cX3_pick 4 (some .int) : Jvm.Cond) ∈ WS := WS_t7 104 (by eq_refl) (by eq_refl)
theorem wk_1599 : (.methodLink RL 310 yX3_pick : Jvm.Cond) ∈ WS := WS_t7 101 (by eq_refl) (by eq_refl)
theorem wk_1600 : (.instanceMethod yX3_pick : Jvm.Cond) ∈ WS := WS_t7 102 (by eq_refl) (by eq_refl)
theorem wk_1601 : (.selects RX3 yX3_pick yX3_pick : Jvm.Cond) ∈ WS := WS_t7 103 (by eq_refl) (by eq_refl)
theorem wk_124 : (.code yX1_turn cX1_turn 4 (some .int) : Jvm.Cond) ∈ WS := WS_t1 66 (by eq_refl) (by eq_refl)
theorem wk_121 : (.methodLink RL 311 yX1_turn : Jvm.Cond) ∈ WS := WS_t1 63 (by eq_refl) (by eq_refl)
theorem wk_122 : (.instanceMethod yX1_turn : Jvm.Cond) ∈ WS := WS_t1 64 (by eq_refl) (by eq_refl)
theorem wk_123 : (.selects RX1 yX1_turn yX1_turn : Jvm.Cond) ∈ WS := WS_t1 65 (by eq_refl) (by eq_refl)
theorem wk_1606 : (.code yX3_turn cX3_turn 4 (some .int) : Jvm.Cond) ∈ WS := WS_t7 108 (by eq_refl) (by eq_refl)
theorem wk_1603 : (.methodLink RL 314 yX3_turn : Jvm.Cond) ∈ WS := WS_t7 105 (by eq_refl) (by eq_refl)
theorem wk_1604 : (.instanceMethod yX3_turn : Jvm.Cond) ∈ WS := WS_t7 106 (by eq_refl) (by eq_refl)
theorem wk_1605 : (.selects RX3 yX3_turn yX3_turn : Jvm.Cond) ∈ WS := WS_t7 107 (by eq_refl) (by eq_refl)
theorem wk_128 : (.code yX1_sweep cX1_sweep 3 (some .int) : Jvm.Cond) ∈ WS := WS_t1 70 (by eq_refl) (by eq_refl)
theorem wk_125 : (.methodLink RL 315 yX1_sweep : Jvm.Cond) ∈ WS := WS_t1 67 (by eq_refl) (by eq_refl)
theorem wk_126 : (.instanceMethod yX1_sweep : Jvm.Cond) ∈ WS := WS_t1 68 (by eq_refl) (by eq_refl)
theorem wk_127 : (.selects RX1 yX1_sweep yX1_sweep : Jvm.Cond) ∈ WS := WS_t1 69 (by eq_refl) (by eq_refl)
theorem wk_1631 : (.code yX3_sweep cX3_sweep 2 (some .int) : Jvm.Cond) ∈ WS := WS_t7 133 (by eq_refl) (by eq_refl)
theorem wk_1628 : (.methodLink RL 318 yX3_sweep : Jvm.Cond) ∈ WS := WS_t7 130 (by eq_refl) (by eq_refl)
theorem wk_1629 : (.instanceMethod yX3_sweep : Jvm.Cond) ∈ WS := WS_t7 131 (by eq_refl) (by eq_refl)
theorem wk_1630 : (.selects RX3 yX3_sweep yX3_sweep : Jvm.Cond) ∈ WS := WS_t7 132 (by eq_refl) (by eq_refl)
theorem wk_1102 : (.codeWith yL_pile cL_pile 5 (some .int) [(0, 11, 14, 19), (0, 11, 18, 28)] : Jvm.Cond) ∈ WS := WS_t5 84 (by eq_refl) (by eq_refl)
theorem wk_1100 : (.methodLink RL 319 yL_pile : Jvm.Cond) ∈ WS := WS_t5 82 (by eq_refl) (by eq_refl)
theorem wk_1101 : (.static yL_pile : Jvm.Cond) ∈ WS := WS_t5 83 (by eq_refl) (by eq_refl)
theorem wk_1635 : (.code yX3_pile cX3_pile 3 (some .int) : Jvm.Cond) ∈ WS := WS_t7 137 (by eq_refl) (by eq_refl)
theorem wk_1632 : (.methodLink RL 321 yX3_pile : Jvm.Cond) ∈ WS := WS_t7 134 (by eq_refl) (by eq_refl)
theorem wk_1633 : (.instanceMethod yX3_pile : Jvm.Cond) ∈ WS := WS_t7 135 (by eq_refl) (by eq_refl)
theorem wk_1634 : (.selects RX3 yX3_pile yX3_pile : Jvm.Cond) ∈ WS := WS_t7 136 (by eq_refl) (by eq_refl)
theorem wk_1109 : (.codeWith yL_house cL_house 4 (some .int) [(0, 10, 13, 28)] : Jvm.Cond) ∈ WS := WS_t5 91 (by eq_refl) (by eq_refl)
theorem wk_1107 : (.methodLink RL 322 yL_house : Jvm.Cond) ∈ WS := WS_t5 89 (by eq_refl) (by eq_refl)
theorem wk_1108 : (.static yL_house : Jvm.Cond) ∈ WS := WS_t5 90 (by eq_refl) (by eq_refl)
theorem wk_1648 : (.code yX3_house cX3_house 2 (some .int) : Jvm.Cond) ∈ WS := WS_t7 150 (by eq_refl) (by eq_refl)
theorem wk_1645 : (.methodLink RL 324 yX3_house : Jvm.Cond) ∈ WS := WS_t7 147 (by eq_refl) (by eq_refl)
theorem wk_1646 : (.instanceMethod yX3_house : Jvm.Cond) ∈ WS := WS_t7 148 (by eq_refl) (by eq_refl)
theorem wk_1647 : (.selects RX3 yX3_house yX3_house : Jvm.Cond) ∈ WS := WS_t7 149 (by eq_refl) (by eq_refl)
theorem wk_132 : (.code yX1_knock cX1_knock 1 (some .int) : Jvm.Cond) ∈ WS := WS_t1 74 (by eq_refl) (by eq_refl)
theorem wk_129 : (.methodLink RL 325 yX1_knock : Jvm.Cond) ∈ WS := WS_t1 71 (by eq_refl) (by eq_refl)
theorem wk_130 : (.instanceMethod yX1_knock : Jvm.Cond) ∈ WS := WS_t1 72 (by eq_refl) (by eq_refl)
theorem wk_131 : (.selects RX1 yX1_knock yX1_knock : Jvm.Cond) ∈ WS := WS_t1 73 (by eq_refl) (by eq_refl)
theorem wk_1657 : (.code yX3_knock cX3_knock 1 (some .int) : Jvm.Cond) ∈ WS := WS_t7 159 (by eq_refl) (by eq_refl)
theorem wk_1654 : (.methodLink RL 328 yX3_knock : Jvm.Cond) ∈ WS := WS_t7 156 (by eq_refl) (by eq_refl)
theorem wk_1655 : (.instanceMethod yX3_knock : Jvm.Cond) ∈ WS := WS_t7 157 (by eq_refl) (by eq_refl)
theorem wk_1656 : (.selects RX3 yX3_knock yX3_knock : Jvm.Cond) ∈ WS := WS_t7 158 (by eq_refl) (by eq_refl)
theorem wk_133 : (.methodLink RL 329 yX1_isSound : Jvm.Cond) ∈ WS := WS_t1 75 (by eq_refl) (by eq_refl)
theorem wk_1661 : (.code yX3_isSound cX3_isSound 1 (some .boolean) : Jvm.Cond) ∈ WS := WS_t7 163 (by eq_refl) (by eq_refl)
theorem wk_1658 : (.methodLink RL 333 yX3_isSound : Jvm.Cond) ∈ WS := WS_t7 160 (by eq_refl) (by eq_refl)
theorem wk_1659 : (.instanceMethod yX3_isSound : Jvm.Cond) ∈ WS := WS_t7 161 (by eq_refl) (by eq_refl)
theorem wk_1660 : (.selects RX3 yX3_isSound yX3_isSound : Jvm.Cond) ∈ WS := WS_t7 162 (by eq_refl) (by eq_refl)
theorem wk_247 : (.code yX1_digest cX1_digest 4 (some .long) : Jvm.Cond) ∈ WS := WS_t1 189 (by eq_refl) (by eq_refl)
theorem wk_244 : (.methodLink RL 334 yX1_digest : Jvm.Cond) ∈ WS := WS_t1 186 (by eq_refl) (by eq_refl)
theorem wk_245 : (.instanceMethod yX1_digest : Jvm.Cond) ∈ WS := WS_t1 187 (by eq_refl) (by eq_refl)
theorem wk_246 : (.selects RX1 yX1_digest yX1_digest : Jvm.Cond) ∈ WS := WS_t1 188 (by eq_refl) (by eq_refl)
theorem wk_1665 : (.code yX3_digest cX3_digest 6 (some .long) : Jvm.Cond) ∈ WS := WS_t7 167 (by eq_refl) (by eq_refl)
theorem wk_1662 : (.methodLink RL 338 yX3_digest : Jvm.Cond) ∈ WS := WS_t7 164 (by eq_refl) (by eq_refl)
theorem wk_1663 : (.instanceMethod yX3_digest : Jvm.Cond) ∈ WS := WS_t7 165 (by eq_refl) (by eq_refl)
theorem wk_1664 : (.selects RX3 yX3_digest yX3_digest : Jvm.Cond) ∈ WS := WS_t7 166 (by eq_refl) (by eq_refl)
theorem kc_183 {l : Launch} (hl : l.stackTraces = false) {G : GT} {own : String} {i : Nat} (hw : Jvm.Cond.methodLink own i yX1_init ∈ WS) : vCal l G own i (4, 1, 5, 1, (fun _ _ => 3), (fun _ _ => 26), yX1_init, spOf (MX1_init (gg G))) := ⟨cX1_init, 1, none, fun y hy => by subst hy; exact ⟨Nat.le_of_ble_eq_true rfl, ⟨_, wk_92, okX1_init hl, Or.inl ⟨Nat.ne_of_beq_eq_false rfl, rfl⟩⟩, wk_59, nc14, ⟨pd7, rfl, hw, wk_91, rfl⟩⟩⟩
theorem kc_184 {l : Launch} (hl : l.stackTraces = false) {G : GT} {own : String} {i : Nat} (hw : Jvm.Cond.methodLink own i yX3_init ∈ WS) : vCal l G own i (4, 1, 7, 7, (fun _ _ => 9), (fun _ _ => 104), yX3_init, spOf (MX3_init (gg G))) := ⟨cX3_init, 2, none, fun y hy => by subst hy; exact ⟨Nat.le_of_ble_eq_true rfl, ⟨_, wk_1118, okX3_init hl, Or.inl ⟨Nat.ne_of_beq_eq_false rfl, rfl⟩⟩, wk_60, nc13, ⟨pd7, rfl, hw, wk_1117, rfl⟩⟩⟩
theorem nc15 : (RX2 : String) ≠ "java/lang/invoke/MethodHandle" ∧ (RX2 : String) ≠ "java/lang/invoke/VarHandle" := ⟨by decide, by decide⟩
theorem nc16 : (RL : String) ≠ "java/lang/invoke/MethodHandle" ∧ (RL : String) ≠ "java/lang/invoke/VarHandle" := ⟨by decide, by decide⟩
theorem kc_185 {l : Launch} (hl : l.stackTraces = false) {G : GT} {own : String} {i : Nat} (hw : Jvm.Cond.methodLink own i yX3_set ∈ WS) : vCal l G own i (2, 4, 7, 3, (fun _ _ => 0), (fun _ _ => 0), yX3_set, spOf (MX3_set (gg G))) := ⟨cX3_set, 5, some .int, fun y hy => by subst hy; exact ⟨Nat.le_of_ble_eq_true rfl, ⟨_, wk_1221, okX3_set hl, Or.inl ⟨Nat.ne_of_beq_eq_false rfl, rfl⟩⟩, wk_60, nc13, ⟨pd82, hw, wk_1219, wk_1220, (RX3, TX3, 7), rfl, rfl⟩⟩⟩
theorem kc_186 {l : Launch} (hl : l.stackTraces = false) {G : GT} {own : String} {i : Nat} (hw : Jvm.Cond.methodLink own i yX3_setSmall ∈ WS) : vCal l G own i (2, 3, 7, 3, (fun _ _ => 0), (fun _ _ => 0), yX3_setSmall, spOf (MX3_setSmall (gg G))) := ⟨cX3_setSmall, 4, some .int, fun y hy => by subst hy; exact ⟨Nat.le_of_ble_eq_true rfl, ⟨_, wk_1243, okX3_setSmall hl, Or.inl ⟨Nat.ne_of_beq_eq_false rfl, rfl⟩⟩, wk_60, nc13, ⟨pd45, hw, wk_1241, wk_1242, (RX3, TX3, 7), rfl, rfl⟩⟩⟩
theorem kc_187 {l : Launch} (hl : l.stackTraces = false) {G : GT} {own : String} {i : Nat} (hw : Jvm.Cond.methodLink own i yX3_setEnd ∈ WS) : vCal l G own i (2, 3, 7, 3, (fun _ _ => 1), (fun _ _ => 4), yX3_setEnd, spOf (MX3_setEnd (gg G))) := ⟨cX3_setEnd, 4, some .int, fun y hy => by subst hy; exact ⟨Nat.le_of_ble_eq_true rfl, ⟨_, wk_1251, okX3_setEnd hl, Or.inl ⟨Nat.ne_of_beq_eq_false rfl, rfl⟩⟩, wk_60, nc13, ⟨pd45, hw, wk_1249, wk_1250, (RX3, TX3, 7), rfl, rfl⟩⟩⟩
theorem kc_188 {l : Launch} (hl : l.stackTraces = false) {G : GT} {own : String} {i : Nat} (hw : Jvm.Cond.methodLink own i yX3_move ∈ WS) : vCal l G own i (2, 3, 7, 3, (fun _ _ => 0), (fun _ _ => 0), yX3_move, spOf (MX3_move (gg G))) := ⟨cX3_move, 3, some .int, fun y hy => by subst hy; exact ⟨Nat.le_of_ble_eq_true rfl, ⟨_, wk_1262, okX3_move hl, Or.inl ⟨Nat.ne_of_beq_eq_false rfl, rfl⟩⟩, wk_60, nc13, ⟨pd45, hw, wk_1260, wk_1261, (RX3, TX3, 7), rfl, rfl⟩⟩⟩
theorem kc_189 {l : Launch} (hl : l.stackTraces = false) {G : GT} {own : String} {i : Nat} (hw : Jvm.Cond.methodLink own i yX3_copy ∈ WS) : vCal l G own i (2, 3, 7, 3, (fun _ _ => 0), (fun _ _ => 0), yX3_copy, spOf (MX3_copy (gg G))) := ⟨cX3_copy, 3, some .int, fun y hy => by subst hy; exact ⟨Nat.le_of_ble_eq_true rfl, ⟨_, wk_1266, okX3_copy hl, Or.inl ⟨Nat.ne_of_beq_eq_false rfl, rfl⟩⟩, wk_60, nc13, ⟨pd45, hw, wk_1264, wk_1265, (RX3, TX3, 7), rfl, rfl⟩⟩⟩
theorem kc_190 {l : Launch} (hl : l.stackTraces = false) {G : GT} {own : String} {i : Nat} (hw : Jvm.Cond.methodLink own i yX3_ofNumber ∈ WS) : vCal l G own i (2, 3, 7, 3, (fun _ _ => 0), (fun _ _ => 0), yX3_ofNumber, spOf (MX3_ofNumber (gg G))) := ⟨cX3_ofNumber, 3, some .int, fun y hy => by subst hy; exact ⟨Nat.le_of_ble_eq_true rfl, ⟨_, wk_1270, okX3_ofNumber hl, Or.inl ⟨Nat.ne_of_beq_eq_false rfl, rfl⟩⟩, wk_60, nc13, ⟨pd47, hw, wk_1268, wk_1269, (RX3, TX3, 7), rfl, rfl⟩⟩⟩
theorem kc_191 {l : Launch} (hl : l.stackTraces = false) {G : GT} {own : String} {i : Nat} (hw : Jvm.Cond.methodLink own i yX3_numberText ∈ WS) : vCal l G own i (2, 2, 7, 7, (fun _ _ => 6), (fun _ _ => 454), yX3_numberText, spOf (MX3_numberText (gg G))) := ⟨cX3_numberText, 2, some (.object "java/lang/String"), fun y hy => by subst hy; exact ⟨Nat.le_of_ble_eq_true rfl, ⟨_, wk_1274, okX3_numberText hl, Or.inl ⟨Nat.ne_of_beq_eq_false rfl, rfl⟩⟩, wk_60, nc13, ⟨pd83, hw, wk_1272, wk_1273, (RX3, TX3, 7), rfl, rfl⟩⟩⟩
theorem kc_192 {l : Launch} (hl : l.stackTraces = false) {G : GT} {own : String} {i : Nat} (hw : Jvm.Cond.methodLink own i yX3_order ∈ WS) : vCal l G own i (2, 3, 7, 3, (fun _ _ => 0), (fun _ _ => 0), yX3_order, spOf (MX3_order (gg G))) := ⟨cX3_order, 3, some .int, fun y hy => by subst hy; exact ⟨Nat.le_of_ble_eq_true rfl, ⟨_, wk_1310, okX3_order hl, Or.inl ⟨Nat.ne_of_beq_eq_false rfl, rfl⟩⟩, wk_60, nc13, ⟨pd45, hw, wk_1308, wk_1309, (RX3, TX3, 7), rfl, rfl⟩⟩⟩
theorem kc_193 {l : Launch} (hl : l.stackTraces = false) {G : GT} {own : String} {i : Nat} (hw : Jvm.Cond.methodLink own i yX3_two ∈ WS) : vCal l G own i (2, 4, 7, 5, (fun _ _ => 1), (fun _ _ => 4), yX3_two, spOf (MX3_two (gg G))) := ⟨cX3_two, 4, some .int, fun y hy => by subst hy; exact ⟨Nat.le_of_ble_eq_true rfl, ⟨_, wk_1317, okX3_two hl, Or.inl ⟨Nat.ne_of_beq_eq_false rfl, rfl⟩⟩, wk_60, nc13, ⟨pd82, hw, wk_1315, wk_1316, (RX3, TX3, 7), rfl, rfl⟩⟩⟩
theorem kc_194 {l : Launch} (hl : l.stackTraces = false) {G : GT} {own : String} {i : Nat} (hw : Jvm.Cond.methodLink own i yX3_three ∈ WS) : vCal l G own i (2, 5, 7, 5, (fun _ _ => 1), (fun _ _ => 4), yX3_three, spOf (MX3_three (gg G))) := ⟨cX3_three, 5, some .int, fun y hy => by subst hy; exact ⟨Nat.le_of_ble_eq_true rfl, ⟨_, wk_1347, okX3_three hl, Or.inl ⟨Nat.ne_of_beq_eq_false rfl, rfl⟩⟩, wk_60, nc13, ⟨pd84, hw, wk_1345, wk_1346, (RX3, TX3, 7), rfl, rfl⟩⟩⟩
theorem kc_195 {l : Launch} (hl : l.stackTraces = false) {G : GT} {own : String} {i : Nat} (hw : Jvm.Cond.methodLink own i yX3_four ∈ WS) : vCal l G own i (2, 6, 7, 5, (fun _ _ => 1), (fun _ _ => 4), yX3_four, spOf (MX3_four (gg G))) := ⟨cX3_four, 6, some .int, fun y hy => by subst hy; exact ⟨Nat.le_of_ble_eq_true rfl, ⟨_, wk_1351, okX3_four hl, Or.inl ⟨Nat.ne_of_beq_eq_false rfl, rfl⟩⟩, wk_60, nc13, ⟨pd85, hw, wk_1349, wk_1350, (RX3, TX3, 7), rfl, rfl⟩⟩⟩
theorem kc_196 {l : Launch} (hl : l.stackTraces = false) {G : GT} {own : String} {i : Nat} (hw : Jvm.Cond.methodLink own i yX3_twoSmall ∈ WS) : vCal l G own i (2, 4, 7, 5, (fun _ _ => 1), (fun _ _ => 4), yX3_twoSmall, spOf (MX3_twoSmall (gg G))) := ⟨cX3_twoSmall, 4, some .int, fun y hy => by subst hy; exact ⟨Nat.le_of_ble_eq_true rfl, ⟨_, wk_1355, okX3_twoSmall hl, Or.inl ⟨Nat.ne_of_beq_eq_false rfl, rfl⟩⟩, wk_60, nc13, ⟨pd82, hw, wk_1353, wk_1354, (RX3, TX3, 7), rfl, rfl⟩⟩⟩
theorem kc_197 {l : Launch} (hl : l.stackTraces = false) {G : GT} {own : String} {i : Nat} (hw : Jvm.Cond.methodLink own i yX3_threeSmall ∈ WS) : vCal l G own i (2, 5, 7, 5, (fun _ _ => 1), (fun _ _ => 4), yX3_threeSmall, spOf (MX3_threeSmall (gg G))) := ⟨cX3_threeSmall, 5, some .int, fun y hy => by subst hy; exact ⟨Nat.le_of_ble_eq_true rfl, ⟨_, wk_1359, okX3_threeSmall hl, Or.inl ⟨Nat.ne_of_beq_eq_false rfl, rfl⟩⟩, wk_60, nc13, ⟨pd84, hw, wk_1357, wk_1358, (RX3, TX3, 7), rfl, rfl⟩⟩⟩
theorem kc_198 {l : Launch} (hl : l.stackTraces = false) {G : GT} {own : String} {i : Nat} (hw : Jvm.Cond.methodLink own i yX3_fourSmall ∈ WS) : vCal l G own i (2, 6, 7, 5, (fun _ _ => 1), (fun _ _ => 4), yX3_fourSmall, spOf (MX3_fourSmall (gg G))) := ⟨cX3_fourSmall, 6, some .int, fun y hy => by subst hy; exact ⟨Nat.le_of_ble_eq_true rfl, ⟨_, wk_1363, okX3_fourSmall hl, Or.inl ⟨Nat.ne_of_beq_eq_false rfl, rfl⟩⟩, wk_60, nc13, ⟨pd85, hw, wk_1361, wk_1362, (RX3, TX3, 7), rfl, rfl⟩⟩⟩
theorem kc_199 {l : Launch} (hl : l.stackTraces = false) {G : GT} {own : String} {i : Nat} (hw : Jvm.Cond.methodLink own i yX3_again ∈ WS) : vCal l G own i (2, 3, 7, 6, (fun _ _ => 1), (fun _ _ => 4), yX3_again, spOf (MX3_again (gg G))) := ⟨cX3_again, 10, some .int, fun y hy => by subst hy; exact ⟨Nat.le_of_ble_eq_true rfl, ⟨_, wk_1367, okX3_again hl, Or.inl ⟨Nat.ne_of_beq_eq_false rfl, rfl⟩⟩, wk_60, nc13, ⟨pd45, hw, wk_1365, wk_1366, (RX3, TX3, 7), rfl, rfl⟩⟩⟩
theorem kc_200 {l : Launch} (hl : l.stackTraces = false) {G : GT} {own : String} {i : Nat} (hw : Jvm.Cond.methodLink own i yX3_same_ ∈ WS) : vCal l G own i (2, 3, 7, 6, (fun _ _ => 0), (fun _ _ => 0), yX3_same_, spOf (MX3_same_ (gg G))) := ⟨cX3_same_, 4, some .int, fun y hy => by subst hy; exact ⟨Nat.le_of_ble_eq_true rfl, ⟨_, wk_1384, okX3_same_ hl, Or.inl ⟨Nat.ne_of_beq_eq_false rfl, rfl⟩⟩, wk_60, nc13, ⟨pd45, hw, wk_1382, wk_1383, (RX3, TX3, 7), rfl, rfl⟩⟩⟩
theorem kc_201 {l : Launch} (hl : l.stackTraces = false) {G : GT} {own : String} {i : Nat} (hw : Jvm.Cond.methodLink own i yX3_outer ∈ WS) : vCal l G own i (2, 3, 7, 6, (fun _ _ => 1), (fun _ _ => 4), yX3_outer, spOf (MX3_outer (gg G))) := ⟨cX3_outer, 4, some .int, fun y hy => by subst hy; exact ⟨Nat.le_of_ble_eq_true rfl, ⟨_, wk_1391, okX3_outer hl, Or.inl ⟨Nat.ne_of_beq_eq_false rfl, rfl⟩⟩, wk_60, nc13, ⟨pd45, hw, wk_1389, wk_1390, (RX3, TX3, 7), rfl, rfl⟩⟩⟩
theorem kc_202 {l : Launch} (hl : l.stackTraces = false) {G : GT} {own : String} {i : Nat} (hw : Jvm.Cond.methodLink own i yX3_inner ∈ WS) : vCal l G own i (2, 3, 7, 6, (fun _ _ => 1), (fun _ _ => 4), yX3_inner, spOf (MX3_inner (gg G))) := ⟨cX3_inner, 4, some .int, fun y hy => by subst hy; exact ⟨Nat.le_of_ble_eq_true rfl, ⟨_, wk_1398, okX3_inner hl, Or.inl ⟨Nat.ne_of_beq_eq_false rfl, rfl⟩⟩, wk_60, nc13, ⟨pd45, hw, wk_1396, wk_1397, (RX3, TX3, 7), rfl, rfl⟩⟩⟩
theorem kc_203 {l : Launch} (hl : l.stackTraces = false) {G : GT} {own : String} {i : Nat} (hw : Jvm.Cond.methodLink own i yX3_span ∈ WS) : vCal l G own i (2, 4, 7, 5, (fun _ _ => 1), (fun _ _ => 4), yX3_span, spOf (MX3_span (gg G))) := ⟨cX3_span, 4, some .int, fun y hy => by subst hy; exact ⟨Nat.le_of_ble_eq_true rfl, ⟨_, wk_1402, okX3_span hl, Or.inl ⟨Nat.ne_of_beq_eq_false rfl, rfl⟩⟩, wk_60, nc13, ⟨pd82, hw, wk_1400, wk_1401, (RX3, TX3, 7), rfl, rfl⟩⟩⟩
theorem kc_204 {l : Launch} (hl : l.stackTraces = false) {G : GT} {own : String} {i : Nat} (hw : Jvm.Cond.methodLink own i yX3_shift ∈ WS) : vCal l G own i (2, 3, 7, 6, (fun _ _ => 1), (fun _ _ => 4), yX3_shift, spOf (MX3_shift (gg G))) := ⟨cX3_shift, 4, some .int, fun y hy => by subst hy; exact ⟨Nat.le_of_ble_eq_true rfl, ⟨_, wk_1406, okX3_shift hl, Or.inl ⟨Nat.ne_of_beq_eq_false rfl, rfl⟩⟩, wk_60, nc13, ⟨pd45, hw, wk_1404, wk_1405, (RX3, TX3, 7), rfl, rfl⟩⟩⟩
theorem kc_205 {l : Launch} (hl : l.stackTraces = false) {G : GT} {own : String} {i : Nat} (hw : Jvm.Cond.methodLink own i yX3_drop ∈ WS) : vCal l G own i (2, 2, 7, 5, (fun _ _ => 0), (fun _ _ => 0), yX3_drop, spOf (MX3_drop (gg G))) := ⟨cX3_drop, 3, some .int, fun y hy => by subst hy; exact ⟨Nat.le_of_ble_eq_true rfl, ⟨_, wk_1414, okX3_drop hl, Or.inl ⟨Nat.ne_of_beq_eq_false rfl, rfl⟩⟩, wk_60, nc13, ⟨pd46, hw, wk_1412, wk_1413, (RX3, TX3, 7), rfl, rfl⟩⟩⟩
theorem kc_206 {l : Launch} (hl : l.stackTraces = false) {G : GT} {own : String} {i : Nat} (hw : Jvm.Cond.methodLink own i yX3_isThere ∈ WS) : vCal l G own i (2, 2, 7, 5, (fun _ _ => 0), (fun _ _ => 0), yX3_isThere, spOf (MX3_isThere (gg G))) := ⟨cX3_isThere, 2, some .boolean, fun y hy => by subst hy; exact ⟨Nat.le_of_ble_eq_true rfl, ⟨_, wk_1418, okX3_isThere hl, Or.inl ⟨Nat.ne_of_beq_eq_false rfl, rfl⟩⟩, wk_60, nc13, ⟨pd38, hw, wk_1416, wk_1417, (RX3, TX3, 7), rfl, rfl⟩⟩⟩
theorem kc_207 {l : Launch} (hl : l.stackTraces = false) {G : GT} {own : String} {i : Nat} (hw : Jvm.Cond.methodLink own i yX3_isFixed ∈ WS) : vCal l G own i (2, 2, 7, 6, (fun _ _ => 0), (fun _ _ => 0), yX3_isFixed, spOf (MX3_isFixed (gg G))) := ⟨cX3_isFixed, 2, some .boolean, fun y hy => by subst hy; exact ⟨Nat.le_of_ble_eq_true rfl, ⟨_, wk_1422, okX3_isFixed hl, Or.inl ⟨Nat.ne_of_beq_eq_false rfl, rfl⟩⟩, wk_60, nc13, ⟨pd38, hw, wk_1420, wk_1421, (RX3, TX3, 7), rfl, rfl⟩⟩⟩
theorem kc_208 {l : Launch} (hl : l.stackTraces = false) {G : GT} {own : String} {i : Nat} (hw : Jvm.Cond.methodLink own i yX3_isSmall ∈ WS) : vCal l G own i (2, 2, 7, 6, (fun _ _ => 0), (fun _ _ => 0), yX3_isSmall, spOf (MX3_isSmall (gg G))) := ⟨cX3_isSmall, 2, some .boolean, fun y hy => by subst hy; exact ⟨Nat.le_of_ble_eq_true rfl, ⟨_, wk_1426, okX3_isSmall hl, Or.inl ⟨Nat.ne_of_beq_eq_false rfl, rfl⟩⟩, wk_60, nc13, ⟨pd38, hw, wk_1424, wk_1425, (RX3, TX3, 7), rfl, rfl⟩⟩⟩
theorem kc_209 {l : Launch} (hl : l.stackTraces = false) {G : GT} {own : String} {i : Nat} (hw : Jvm.Cond.methodLink own i yX3_end ∈ WS) : vCal l G own i (2, 4, 7, 6, (fun _ _ => 0), (fun _ _ => 0), yX3_end, spOf (MX3_end (gg G))) := ⟨cX3_end, 4, some .int, fun y hy => by subst hy; exact ⟨Nat.le_of_ble_eq_true rfl, ⟨_, wk_1433, okX3_end hl, Or.inl ⟨Nat.ne_of_beq_eq_false rfl, rfl⟩⟩, wk_60, nc13, ⟨pd86, hw, wk_1431, wk_1432, (RX3, TX3, 7), rfl, rfl⟩⟩⟩
theorem kc_210 {l : Launch} (hl : l.stackTraces = false) {G : GT} {own : String} {i : Nat} (hw : Jvm.Cond.methodLink own i yX3_take ∈ WS) : vCal l G own i (2, 4, 7, 5, (fun _ _ => 0), (fun _ _ => 0), yX3_take, spOf (MX3_take (gg G))) := ⟨cX3_take, 4, some .int, fun y hy => by subst hy; exact ⟨Nat.le_of_ble_eq_true rfl, ⟨_, wk_1444, okX3_take hl, Or.inl ⟨Nat.ne_of_beq_eq_false rfl, rfl⟩⟩, wk_60, nc13, ⟨pd82, hw, wk_1442, wk_1443, (RX3, TX3, 7), rfl, rfl⟩⟩⟩
theorem kc_211 {l : Launch} (hl : l.stackTraces = false) {G : GT} {own : String} {i : Nat} (hw : Jvm.Cond.methodLink own i yX3_cardText ∈ WS) : vCal l G own i (2, 2, 7, 7, (fun _ _ => 11), (fun _ _ => 1304), yX3_cardText, spOf (MX3_cardText (gg G))) := ⟨cX3_cardText, 3, some (.object "java/lang/String"), fun y hy => by subst hy; exact ⟨Nat.le_of_ble_eq_true rfl, ⟨_, wk_1448, okX3_cardText hl, Or.inl ⟨Nat.ne_of_beq_eq_false rfl, rfl⟩⟩, wk_60, nc13, ⟨pd83, hw, wk_1446, wk_1447, (RX3, TX3, 7), rfl, rfl⟩⟩⟩
theorem kc_212 {l : Launch} (hl : l.stackTraces = false) {G : GT} {own : String} {i : Nat} (hw : Jvm.Cond.methodLink own i yX3_isValid ∈ WS) : vCal l G own i (2, 3, 7, 6, (fun _ _ => 0), (fun _ _ => 0), yX3_isValid, spOf (MX3_isValid (gg G))) := ⟨cX3_isValid, 3, some .boolean, fun y hy => by subst hy; exact ⟨Nat.le_of_ble_eq_true rfl, ⟨_, wk_1454, okX3_isValid hl, Or.inl ⟨Nat.ne_of_beq_eq_false rfl, rfl⟩⟩, wk_60, nc13, ⟨pd39, hw, wk_1452, wk_1453, (RX3, TX3, 7), rfl, rfl⟩⟩⟩
theorem kc_213 {l : Launch} (hl : l.stackTraces = false) {G : GT} {own : String} {i : Nat} (hw : Jvm.Cond.methodLink own i yX3_isValidSmall ∈ WS) : vCal l G own i (2, 3, 7, 6, (fun _ _ => 0), (fun _ _ => 0), yX3_isValidSmall, spOf (MX3_isValidSmall (gg G))) := ⟨cX3_isValidSmall, 3, some .boolean, fun y hy => by subst hy; exact ⟨Nat.le_of_ble_eq_true rfl, ⟨_, wk_1465, okX3_isValidSmall hl, Or.inl ⟨Nat.ne_of_beq_eq_false rfl, rfl⟩⟩, wk_60, nc13, ⟨pd39, hw, wk_1463, wk_1464, (RX3, TX3, 7), rfl, rfl⟩⟩⟩
theorem kc_214 {l : Launch} (hl : l.stackTraces = false) {G : GT} {own : String} {i : Nat} (hw : Jvm.Cond.methodLink own i yX3_whichValid ∈ WS) : vCal l G own i (2, 3, 7, 6, (fun _ _ => 0), (fun _ _ => 0), yX3_whichValid, spOf (MX3_whichValid (gg G))) := ⟨cX3_whichValid, 3, some .int, fun y hy => by subst hy; exact ⟨Nat.le_of_ble_eq_true rfl, ⟨_, wk_1469, okX3_whichValid hl, Or.inl ⟨Nat.ne_of_beq_eq_false rfl, rfl⟩⟩, wk_60, nc13, ⟨pd45, hw, wk_1467, wk_1468, (RX3, TX3, 7), rfl, rfl⟩⟩⟩
theorem kc_215 {l : Launch} (hl : l.stackTraces = false) {G : GT} {own : String} {i : Nat} (hw : Jvm.Cond.methodLink own i yX3_around ∈ WS) : vCal l G own i (2, 4, 7, 6, (fun _ _ => 0), (fun _ _ => 0), yX3_around, spOf (MX3_around (gg G))) := ⟨cX3_around, 4, some .int, fun y hy => by subst hy; exact ⟨Nat.le_of_ble_eq_true rfl, ⟨_, wk_1476, okX3_around hl, Or.inl ⟨Nat.ne_of_beq_eq_false rfl, rfl⟩⟩, wk_60, nc13, ⟨pd86, hw, wk_1474, wk_1475, (RX3, TX3, 7), rfl, rfl⟩⟩⟩
theorem kc_216 {l : Launch} (hl : l.stackTraces = false) {G : GT} {own : String} {i : Nat} (hw : Jvm.Cond.methodLink own i yX3_count ∈ WS) : vCal l G own i (2, 4, 7, 5, (fun _ _ => 0), (fun _ _ => 0), yX3_count, spOf (MX3_count (gg G))) := ⟨cX3_count, 6, some .int, fun y hy => by subst hy; exact ⟨Nat.le_of_ble_eq_true rfl, ⟨_, wk_1483, okX3_count hl, Or.inl ⟨Nat.ne_of_beq_eq_false rfl, rfl⟩⟩, wk_60, nc13, ⟨pd82, hw, wk_1481, wk_1482, (RX3, TX3, 7), rfl, rfl⟩⟩⟩
theorem kc_217 {l : Launch} (hl : l.stackTraces = false) {G : GT} {own : String} {i : Nat} (hw : Jvm.Cond.methodLink own i yX3_who ∈ WS) : vCal l G own i (2, 3, 7, 6, (fun _ _ => 0), (fun _ _ => 0), yX3_who, spOf (MX3_who (gg G))) := ⟨cX3_who, 3, some .int, fun y hy => by subst hy; exact ⟨Nat.le_of_ble_eq_true rfl, ⟨_, wk_1487, okX3_who hl, Or.inl ⟨Nat.ne_of_beq_eq_false rfl, rfl⟩⟩, wk_60, nc13, ⟨pd45, hw, wk_1485, wk_1486, (RX3, TX3, 7), rfl, rfl⟩⟩⟩
theorem kc_218 {l : Launch} (hl : l.stackTraces = false) {G : GT} {own : String} {i : Nat} (hw : Jvm.Cond.methodLink own i yX3_which ∈ WS) : vCal l G own i (2, 2, 7, 6, (fun _ _ => 0), (fun _ _ => 0), yX3_which, spOf (MX3_which (gg G))) := ⟨cX3_which, 2, some .int, fun y hy => by subst hy; exact ⟨Nat.le_of_ble_eq_true rfl, ⟨_, wk_1495, okX3_which hl, Or.inl ⟨Nat.ne_of_beq_eq_false rfl, rfl⟩⟩, wk_60, nc13, ⟨pd46, hw, wk_1493, wk_1494, (RX3, TX3, 7), rfl, rfl⟩⟩⟩
theorem kc_219 {l : Launch} (hl : l.stackTraces = false) {G : GT} {own : String} {i : Nat} (hw : Jvm.Cond.methodLink own i yX3_thrown ∈ WS) : vCal l G own i (2, 1, 7, 1, (fun _ _ => 0), (fun _ _ => 0), yX3_thrown, spOf (MX3_thrown (gg G))) := ⟨cX3_thrown, 1, some .int, fun y hy => by subst hy; exact ⟨Nat.le_of_ble_eq_true rfl, ⟨_, wk_1217, okX3_thrown hl, Or.inl ⟨Nat.ne_of_beq_eq_false rfl, rfl⟩⟩, wk_60, nc13, ⟨pd22, hw, wk_1215, wk_1216, (RX3, TX3, 7), rfl, rfl⟩⟩⟩
theorem kc_220 {l : Launch} (hl : l.stackTraces = false) {G : GT} {own : String} {i : Nat} (hw : Jvm.Cond.methodLink own i yX3_areSame ∈ WS) : vCal l G own i (2, 3, 7, 5, (fun _ _ => 0), (fun _ _ => 0), yX3_areSame, spOf (MX3_areSame (gg G))) := ⟨cX3_areSame, 3, some .boolean, fun y hy => by subst hy; exact ⟨Nat.le_of_ble_eq_true rfl, ⟨_, wk_1503, okX3_areSame hl, Or.inl ⟨Nat.ne_of_beq_eq_false rfl, rfl⟩⟩, wk_60, nc13, ⟨pd39, hw, wk_1501, wk_1502, (RX3, TX3, 7), rfl, rfl⟩⟩⟩
theorem kc_221 {l : Launch} (hl : l.stackTraces = false) {G : GT} {own : String} {i : Nat} (hw : Jvm.Cond.methodLink own i yX3_isSameAs ∈ WS) : vCal l G own i (2, 3, 7, 5, (fun _ _ => 0), (fun _ _ => 0), yX3_isSameAs, spOf (MX3_isSameAs (gg G))) := ⟨cX3_isSameAs, 3, some .boolean, fun y hy => by subst hy; exact ⟨Nat.le_of_ble_eq_true rfl, ⟨_, wk_1507, okX3_isSameAs hl, Or.inl ⟨Nat.ne_of_beq_eq_false rfl, rfl⟩⟩, wk_60, nc13, ⟨pd39, hw, wk_1505, wk_1506, (RX3, TX3, 7), rfl, rfl⟩⟩⟩
theorem kc_222 {l : Launch} (hl : l.stackTraces = false) {G : GT} {own : String} {i : Nat} (hw : Jvm.Cond.methodLink own i yX3_likes ∈ WS) : vCal l G own i (2, 2, 7, 6, (fun _ _ => 0), (fun _ _ => 0), yX3_likes, spOf (MX3_likes (gg G))) := ⟨cX3_likes, 2, some .int, fun y hy => by subst hy; exact ⟨Nat.le_of_ble_eq_true rfl, ⟨_, wk_1511, okX3_likes hl, Or.inl ⟨Nat.ne_of_beq_eq_false rfl, rfl⟩⟩, wk_60, nc13, ⟨pd46, hw, wk_1509, wk_1510, (RX3, TX3, 7), rfl, rfl⟩⟩⟩
theorem kc_223 {l : Launch} (hl : l.stackTraces = false) {G : GT} {own : String} {i : Nat} (hw : Jvm.Cond.methodLink own i yX3_lay ∈ WS) : vCal l G own i (2, 2, 7, 7, (fun _ _ => 1), (fun _ _ => 15), yX3_lay, spOf (MX3_lay (gg G))) := ⟨cX3_lay, 2, some .int, fun y hy => by subst hy; exact ⟨Nat.le_of_ble_eq_true rfl, ⟨_, wk_1519, okX3_lay hl, Or.inl ⟨Nat.ne_of_beq_eq_false rfl, rfl⟩⟩, wk_60, nc13, ⟨pd46, hw, wk_1517, wk_1518, (RX3, TX3, 7), rfl, rfl⟩⟩⟩
theorem kc_224 {l : Launch} (hl : l.stackTraces = false) {G : GT} {own : String} {i : Nat} (hw : Jvm.Cond.methodLink own i yX3_seek ∈ WS) : vCal l G own i (2, 3, 7, 6, (fun _ _ => 0), (fun _ _ => 0), yX3_seek, spOf (MX3_seek (gg G))) := ⟨cX3_seek, 3, some .int, fun y hy => by subst hy; exact ⟨Nat.le_of_ble_eq_true rfl, ⟨_, wk_1527, okX3_seek hl, Or.inl ⟨Nat.ne_of_beq_eq_false rfl, rfl⟩⟩, wk_60, nc13, ⟨pd47, hw, wk_1525, wk_1526, (RX3, TX3, 7), rfl, rfl⟩⟩⟩
theorem kc_225 {l : Launch} (hl : l.stackTraces = false) {G : GT} {own : String} {i : Nat} (hw : Jvm.Cond.methodLink own i yX3_howOften ∈ WS) : vCal l G own i (2, 2, 7, 6, (fun _ _ => 1), (fun _ _ => 4), yX3_howOften, spOf (MX3_howOften (gg G))) := ⟨cX3_howOften, 2, some .int, fun y hy => by subst hy; exact ⟨Nat.le_of_ble_eq_true rfl, ⟨_, wk_1535, okX3_howOften hl, Or.inl ⟨Nat.ne_of_beq_eq_false rfl, rfl⟩⟩, wk_60, nc13, ⟨pd46, hw, wk_1533, wk_1534, (RX3, TX3, 7), rfl, rfl⟩⟩⟩
theorem kc_226 {l : Launch} (hl : l.stackTraces = false) {G : GT} {own : String} {i : Nat} (hw : Jvm.Cond.methodLink own i yX3_lift ∈ WS) : vCal l G own i (2, 2, 7, 6, (fun _ _ => 0), (fun _ _ => 0), yX3_lift, spOf (MX3_lift (gg G))) := ⟨cX3_lift, 3, some .int, fun y hy => by subst hy; exact ⟨Nat.le_of_ble_eq_true rfl, ⟨_, wk_1589, okX3_lift hl, Or.inl ⟨Nat.ne_of_beq_eq_false rfl, rfl⟩⟩, wk_60, nc13, ⟨pd46, hw, wk_1587, wk_1588, (RX3, TX3, 7), rfl, rfl⟩⟩⟩
theorem kc_227 {l : Launch} (hl : l.stackTraces = false) {G : GT} {own : String} {i : Nat} (hw : Jvm.Cond.methodLink own i yX3_pick ∈ WS) : vCal l G own i (2, 3, 7, 5, (fun _ _ => 0), (fun _ _ => 0), yX3_pick, spOf (MX3_pick (gg G))) := ⟨cX3_pick, 4, some .int, fun y hy => by subst hy; exact ⟨Nat.le_of_ble_eq_true rfl, ⟨_, wk_1602, okX3_pick hl, Or.inl ⟨Nat.ne_of_beq_eq_false rfl, rfl⟩⟩, wk_60, nc13, ⟨pd45, hw, wk_1600, wk_1601, (RX3, TX3, 7), rfl, rfl⟩⟩⟩
theorem kc_228 {l : Launch} (hl : l.stackTraces = false) {G : GT} {own : String} {i : Nat} (hw : Jvm.Cond.methodLink own i yX1_turn ∈ WS) : vCal l G own i (2, 1, 5, 1, (fun _ _ => 0), (fun _ _ => 0), yX1_turn, spOf (MX1_turn (gg G))) := ⟨cX1_turn, 4, some .int, fun y hy => by subst hy; exact ⟨Nat.le_of_ble_eq_true rfl, ⟨_, wk_124, okX1_turn hl, Or.inl ⟨Nat.ne_of_beq_eq_false rfl, rfl⟩⟩, wk_59, nc14, ⟨pd22, hw, wk_122, wk_123, (RX1, TX1, 7), rfl, rfl⟩⟩⟩
theorem kc_229 {l : Launch} (hl : l.stackTraces = false) {G : GT} {own : String} {i : Nat} (hw : Jvm.Cond.methodLink own i yX3_turn ∈ WS) : vCal l G own i (2, 1, 7, 6, (fun _ _ => 14), (fun _ _ => 187), yX3_turn, spOf (MX3_turn (gg G))) := ⟨cX3_turn, 4, some .int, fun y hy => by subst hy; exact ⟨Nat.le_of_ble_eq_true rfl, ⟨_, wk_1606, okX3_turn hl, Or.inl ⟨Nat.ne_of_beq_eq_false rfl, rfl⟩⟩, wk_60, nc13, ⟨pd22, hw, wk_1604, wk_1605, (RX3, TX3, 7), rfl, rfl⟩⟩⟩
theorem kc_230 {l : Launch} (hl : l.stackTraces = false) {G : GT} {own : String} {i : Nat} (hw : Jvm.Cond.methodLink own i yX1_sweep ∈ WS) : vCal l G own i (2, 1, 5, 1, (fun _ _ => 0), (fun _ _ => 0), yX1_sweep, spOf (MX1_sweep (gg G))) := ⟨cX1_sweep, 3, some .int, fun y hy => by subst hy; exact ⟨Nat.le_of_ble_eq_true rfl, ⟨_, wk_128, okX1_sweep hl, Or.inl ⟨Nat.ne_of_beq_eq_false rfl, rfl⟩⟩, wk_59, nc14, ⟨pd22, hw, wk_126, wk_127, (RX1, TX1, 7), rfl, rfl⟩⟩⟩
theorem kc_231 {l : Launch} (hl : l.stackTraces = false) {G : GT} {own : String} {i : Nat} (hw : Jvm.Cond.methodLink own i yX3_sweep ∈ WS) : vCal l G own i (2, 1, 7, 4, (fun _ _ => 1), (fun _ _ => 3), yX3_sweep, spOf (MX3_sweep (gg G))) := ⟨cX3_sweep, 2, some .int, fun y hy => by subst hy; exact ⟨Nat.le_of_ble_eq_true rfl, ⟨_, wk_1631, okX3_sweep hl, Or.inl ⟨Nat.ne_of_beq_eq_false rfl, rfl⟩⟩, wk_60, nc13, ⟨pd22, hw, wk_1629, wk_1630, (RX3, TX3, 7), rfl, rfl⟩⟩⟩
theorem kc_232 {l : Launch} (hl : l.stackTraces = false) {G : GT} {own : String} {i : Nat} (hw : Jvm.Cond.methodLink own i yX3_pile ∈ WS) : vCal l G own i (2, 3, 7, 6, (fun _ _ => 12), (fun _ _ => 72), yX3_pile, spOf (MX3_pile (gg G))) := ⟨cX3_pile, 3, some .int, fun y hy => by subst hy; exact ⟨Nat.le_of_ble_eq_true rfl, ⟨_, wk_1635, okX3_pile hl, Or.inl ⟨Nat.ne_of_beq_eq_false rfl, rfl⟩⟩, wk_60, nc13, ⟨pd45, hw, wk_1633, wk_1634, (RX3, TX3, 7), rfl, rfl⟩⟩⟩
theorem kc_233 {l : Launch} (hl : l.stackTraces = false) {G : GT} {own : String} {i : Nat} (hw : Jvm.Cond.methodLink own i yX3_house ∈ WS) : vCal l G own i (2, 2, 7, 4, (fun _ _ => 2), (fun _ _ => 9), yX3_house, spOf (MX3_house (gg G))) := ⟨cX3_house, 2, some .int, fun y hy => by subst hy; exact ⟨Nat.le_of_ble_eq_true rfl, ⟨_, wk_1648, okX3_house hl, Or.inl ⟨Nat.ne_of_beq_eq_false rfl, rfl⟩⟩, wk_60, nc13, ⟨pd46, hw, wk_1646, wk_1647, (RX3, TX3, 7), rfl, rfl⟩⟩⟩
theorem kc_234 {l : Launch} (hl : l.stackTraces = false) {G : GT} {own : String} {i : Nat} (hw : Jvm.Cond.methodLink own i yX1_knock ∈ WS) : vCal l G own i (2, 1, 5, 1, (fun _ _ => 0), (fun _ _ => 0), yX1_knock, spOf (MX1_knock (gg G))) := ⟨cX1_knock, 1, some .int, fun y hy => by subst hy; exact ⟨Nat.le_of_ble_eq_true rfl, ⟨_, wk_132, okX1_knock hl, Or.inl ⟨Nat.ne_of_beq_eq_false rfl, rfl⟩⟩, wk_59, nc14, ⟨pd22, hw, wk_130, wk_131, (RX1, TX1, 7), rfl, rfl⟩⟩⟩
theorem kc_235 {l : Launch} (hl : l.stackTraces = false) {G : GT} {own : String} {i : Nat} (hw : Jvm.Cond.methodLink own i yX3_knock ∈ WS) : vCal l G own i (2, 1, 7, 1, (fun _ _ => 0), (fun _ _ => 0), yX3_knock, spOf (MX3_knock (gg G))) := ⟨cX3_knock, 1, some .int, fun y hy => by subst hy; exact ⟨Nat.le_of_ble_eq_true rfl, ⟨_, wk_1657, okX3_knock hl, Or.inl ⟨Nat.ne_of_beq_eq_false rfl, rfl⟩⟩, wk_60, nc13, ⟨pd22, hw, wk_1655, wk_1656, (RX3, TX3, 7), rfl, rfl⟩⟩⟩
theorem kc_236 {l : Launch} (hl : l.stackTraces = false) {G : GT} {own : String} {i : Nat} (hw : Jvm.Cond.methodLink own i yX3_isSound ∈ WS) : vCal l G own i (2, 1, 7, 1, (fun _ _ => 0), (fun _ _ => 0), yX3_isSound, spOf (MX3_isSound (gg G))) := ⟨cX3_isSound, 1, some .boolean, fun y hy => by subst hy; exact ⟨Nat.le_of_ble_eq_true rfl, ⟨_, wk_1661, okX3_isSound hl, Or.inl ⟨Nat.ne_of_beq_eq_false rfl, rfl⟩⟩, wk_60, nc13, ⟨pd3, hw, wk_1659, wk_1660, (RX3, TX3, 7), rfl, rfl⟩⟩⟩
theorem kc_237 {l : Launch} (hl : l.stackTraces = false) {G : GT} {own : String} {i : Nat} (hw : Jvm.Cond.methodLink own i yX1_digest ∈ WS) : vCal l G own i (2, 1, 5, 7, (fun _ _ => 24), (fun _ _ => 96), yX1_digest, spOf (MX1_digest (gg G))) := ⟨cX1_digest, 4, some .long, fun y hy => by subst hy; exact ⟨Nat.le_of_ble_eq_true rfl, ⟨_, wk_247, okX1_digest hl, Or.inl ⟨Nat.ne_of_beq_eq_false rfl, rfl⟩⟩, wk_59, nc14, ⟨pd58, hw, wk_245, wk_246, (RX1, TX1, 7), rfl, rfl⟩⟩⟩
theorem kc_238 {l : Launch} (hl : l.stackTraces = false) {G : GT} {own : String} {i : Nat} (hw : Jvm.Cond.methodLink own i yX3_digest ∈ WS) : vCal l G own i (2, 1, 7, 6, (fun _ _ => 90), (fun _ _ => 520), yX3_digest, spOf (MX3_digest (gg G))) := ⟨cX3_digest, 6, some .long, fun y hy => by subst hy; exact ⟨Nat.le_of_ble_eq_true rfl, ⟨_, wk_1665, okX3_digest hl, Or.inl ⟨Nat.ne_of_beq_eq_false rfl, rfl⟩⟩, wk_60, nc13, ⟨pd58, hw, wk_1663, wk_1664, (RX3, TX3, 7), rfl, rfl⟩⟩⟩
theorem vML_law {l : Launch} (hl : l.stackTraces = false) (G : GT) : vM l G (ML_law (gg G)) := vM_k RL cL_law rfl rfl (all_c (vF_RL_13) (all_n)) (all_c (vN_RL_8) (all_c (vN_RL_168) (all_c (vN_RL_14) (all_n)))) all_n all_n all_n (fun h => absurd rfl h) (all_c (kc_183 hl wk_90) (all_c (kc_184 hl wk_1116) (all_c (⟨cX2_init, 1, none, fun y hy => by subst hy; exact ⟨Nat.le_of_ble_eq_true rfl, ⟨_, wk_336, okX2_init hl, Or.inl ⟨Nat.ne_of_beq_eq_false rfl, rfl⟩⟩, wk_68, nc15, ⟨(by decide +kernel : (parseMethodDescriptor yX2_init.desc).map (fun d => d.parameters.length + 1) = some 1), rfl, ⟨"RangecardLaw", List.mem_of_getElem? (i := 334) (by decide +kernel : lw_tbl[334]? = some (.methodLinkNest RL 171 yX2_init "RangecardLaw"))⟩, wk_335, rfl⟩⟩⟩) (all_c (⟨cL_set, 6, some .int, fun y hy => by subst hy; exact ⟨Nat.le_of_ble_eq_true rfl, ⟨_, wk_347, okL_set hl, Or.inr ⟨rfl, _, rfl⟩⟩, wk_58, nc16, ⟨(by decide +kernel : (parseMethodDescriptor yL_set.desc).map (fun d => d.parameters.length) = some 5), ⟨wk_345, trivial⟩, wk_346⟩⟩⟩) (all_c (kc_185 hl wk_1218) (all_c (⟨cL_setSmall, 5, some .int, fun y hy => by subst hy; exact ⟨Nat.le_of_ble_eq_true rfl, ⟨_, wk_427, okL_setSmall hl, Or.inr ⟨rfl, _, rfl⟩⟩, wk_58, nc16, ⟨(by decide +kernel : (parseMethodDescriptor yL_setSmall.desc).map (fun d => d.parameters.length) = some 4), ⟨wk_425, trivial⟩, wk_426⟩⟩⟩) (all_c (kc_186 hl wk_1240) (all_c (⟨cL_setEnd, 5, some .int, fun y hy => by subst hy; exact ⟨Nat.le_of_ble_eq_true rfl, ⟨_, wk_434, okL_setEnd hl, Or.inr ⟨rfl, _, rfl⟩⟩, wk_58, nc16, ⟨(by decide +kernel : (parseMethodDescriptor yL_setEnd.desc).map (fun d => d.parameters.length) = some 4), ⟨wk_432, trivial⟩, wk_433⟩⟩⟩) (all_c (kc_187 hl wk_1248) (all_c (⟨cL_move, 5, some .int, fun y hy => by subst hy; exact ⟨Nat.le_of_ble_eq_true rfl, ⟨_, wk_470, okL_move hl, Or.inr ⟨rfl, _, rfl⟩⟩, wk_58, nc16, ⟨(by decide +kernel : (parseMethodDescriptor yL_move.desc).map (fun d => d.parameters.length) = some 4), ⟨wk_468, trivial⟩, wk_469⟩⟩⟩) (all_c (kc_188 hl wk_1259) (all_c (⟨cL_copy, 5, some .int, fun y hy => by subst hy; exact ⟨Nat.le_of_ble_eq_true rfl, ⟨_, wk_477, okL_copy hl, Or.inr ⟨rfl, _, rfl⟩⟩, wk_58, nc16, ⟨(by decide +kernel : (parseMethodDescriptor yL_copy.desc).map (fun d => d.parameters.length) = some 4), ⟨wk_475, trivial⟩, wk_476⟩⟩⟩) (all_c (kc_189 hl wk_1263) (all_c (⟨cL_ofNumber, 5, some .int, fun y hy => by subst hy; exact ⟨Nat.le_of_ble_eq_true rfl, ⟨_, wk_484, okL_ofNumber hl, Or.inr ⟨rfl, _, rfl⟩⟩, wk_58, nc16, ⟨(by decide +kernel : (parseMethodDescriptor yL_ofNumber.desc).map (fun d => d.parameters.length) = some 4), ⟨wk_482, trivial⟩, wk_483⟩⟩⟩) (all_c (kc_190 hl wk_1267) (all_c (⟨cL_numberText, 4, some .int, fun y hy => by subst hy; exact ⟨Nat.le_of_ble_eq_true rfl, ⟨_, wk_494, okL_numberText hl, Or.inr ⟨rfl, _, rfl⟩⟩, wk_58, nc16, ⟨(by decide +kernel : (parseMethodDescriptor yL_numberText.desc).map (fun d => d.parameters.length) = some 3), ⟨wk_492, trivial⟩, wk_493⟩⟩⟩) (all_c (kc_191 hl wk_1271) (all_c (⟨cL_order, 5, some .int, fun y hy => by subst hy; exact ⟨Nat.le_of_ble_eq_true rfl, ⟨_, wk_804, okL_order hl, Or.inr ⟨rfl, _, rfl⟩⟩, wk_58, nc16, ⟨(by decide +kernel : (parseMethodDescriptor yL_order.desc).map (fun d => d.parameters.length) = some 4), ⟨wk_802, trivial⟩, wk_803⟩⟩⟩) (all_c (kc_192 hl wk_1307) (all_c (⟨cL_two, 6, some .int, fun y hy => by subst hy; exact ⟨Nat.le_of_ble_eq_true rfl, ⟨_, wk_811, okL_two hl, Or.inr ⟨rfl, _, rfl⟩⟩, wk_58, nc16, ⟨(by decide +kernel : (parseMethodDescriptor yL_two.desc).map (fun d => d.parameters.length) = some 5), ⟨wk_809, trivial⟩, wk_810⟩⟩⟩) (all_c (kc_193 hl wk_1314) (all_c (⟨cL_three, 7, some .int, fun y hy => by subst hy; exact ⟨Nat.le_of_ble_eq_true rfl, ⟨_, wk_830, okL_three hl, Or.inr ⟨rfl, _, rfl⟩⟩, wk_58, nc16, ⟨(by decide +kernel : (parseMethodDescriptor yL_three.desc).map (fun d => d.parameters.length) = some 6), ⟨wk_828, trivial⟩, wk_829⟩⟩⟩) (all_c (kc_194 hl wk_1344) (all_c (⟨cL_four, 8, some .int, fun y hy => by subst hy; exact ⟨Nat.le_of_ble_eq_true rfl, ⟨_, wk_840, okL_four hl, Or.inr ⟨rfl, _, rfl⟩⟩, wk_58, nc16, ⟨(by decide +kernel : (parseMethodDescriptor yL_four.desc).map (fun d => d.parameters.length) = some 7), ⟨wk_838, trivial⟩, wk_839⟩⟩⟩) (all_c (kc_195 hl wk_1348) (all_c (⟨cL_twoSmall, 6, some .int, fun y hy => by subst hy; exact ⟨Nat.le_of_ble_eq_true rfl, ⟨_, wk_847, okL_twoSmall hl, Or.inr ⟨rfl, _, rfl⟩⟩, wk_58, nc16, ⟨(by decide +kernel : (parseMethodDescriptor yL_twoSmall.desc).map (fun d => d.parameters.length) = some 5), ⟨wk_845, trivial⟩, wk_846⟩⟩⟩) (all_c (kc_196 hl wk_1352) (all_c (⟨cL_threeSmall, 7, some .int, fun y hy => by subst hy; exact ⟨Nat.le_of_ble_eq_true rfl, ⟨_, wk_854, okL_threeSmall hl, Or.inr ⟨rfl, _, rfl⟩⟩, wk_58, nc16, ⟨(by decide +kernel : (parseMethodDescriptor yL_threeSmall.desc).map (fun d => d.parameters.length) = some 6), ⟨wk_852, trivial⟩, wk_853⟩⟩⟩) (all_c (kc_197 hl wk_1356) (all_c (⟨cL_fourSmall, 8, some .int, fun y hy => by subst hy; exact ⟨Nat.le_of_ble_eq_true rfl, ⟨_, wk_861, okL_fourSmall hl, Or.inr ⟨rfl, _, rfl⟩⟩, wk_58, nc16, ⟨(by decide +kernel : (parseMethodDescriptor yL_fourSmall.desc).map (fun d => d.parameters.length) = some 7), ⟨wk_859, trivial⟩, wk_860⟩⟩⟩) (all_c (kc_198 hl wk_1360) (all_c (⟨cL_again, 5, some .int, fun y hy => by subst hy; exact ⟨Nat.le_of_ble_eq_true rfl, ⟨_, wk_868, okL_again hl, Or.inr ⟨rfl, _, rfl⟩⟩, wk_58, nc16, ⟨(by decide +kernel : (parseMethodDescriptor yL_again.desc).map (fun d => d.parameters.length) = some 4), ⟨wk_866, trivial⟩, wk_867⟩⟩⟩) (all_c (kc_199 hl wk_1364) (all_c (⟨cL_same, 5, some .int, fun y hy => by subst hy; exact ⟨Nat.le_of_ble_eq_true rfl, ⟨_, wk_902, okL_same hl, Or.inr ⟨rfl, _, rfl⟩⟩, wk_58, nc16, ⟨(by decide +kernel : (parseMethodDescriptor yL_same.desc).map (fun d => d.parameters.length) = some 4), ⟨wk_900, trivial⟩, wk_901⟩⟩⟩) (all_c (kc_200 hl wk_1381) (all_c (⟨cL_outer, 5, some .int, fun y hy => by subst hy; exact ⟨Nat.le_of_ble_eq_true rfl, ⟨_, wk_909, okL_outer hl, Or.inr ⟨rfl, _, rfl⟩⟩, wk_58, nc16, ⟨(by decide +kernel : (parseMethodDescriptor yL_outer.desc).map (fun d => d.parameters.length) = some 4), ⟨wk_907, trivial⟩, wk_908⟩⟩⟩) (all_c (kc_201 hl wk_1388) (all_c (⟨cL_inner, 5, some .int, fun y hy => by subst hy; exact ⟨Nat.le_of_ble_eq_true rfl, ⟨_, wk_916, okL_inner hl, Or.inr ⟨rfl, _, rfl⟩⟩, wk_58, nc16, ⟨(by decide +kernel : (parseMethodDescriptor yL_inner.desc).map (fun d => d.parameters.length) = some 4), ⟨wk_914, trivial⟩, wk_915⟩⟩⟩) (all_c (kc_202 hl wk_1395) (all_c (⟨cL_span, 6, some .int, fun y hy => by subst hy; exact ⟨Nat.le_of_ble_eq_true rfl, ⟨_, wk_923, okL_span hl, Or.inr ⟨rfl, _, rfl⟩⟩, wk_58, nc16, ⟨(by decide +kernel : (parseMethodDescriptor yL_span.desc).map (fun d => d.parameters.length) = some 5), ⟨wk_921, trivial⟩, wk_922⟩⟩⟩) (all_c (kc_203 hl wk_1399) (all_c (⟨cL_shift, 5, some .int, fun y hy => by subst hy; exact ⟨Nat.le_of_ble_eq_true rfl, ⟨_, wk_930, okL_shift hl, Or.inr ⟨rfl, _, rfl⟩⟩, wk_58, nc16, ⟨(by decide +kernel : (parseMethodDescriptor yL_shift.desc).map (fun d => d.parameters.length) = some 4), ⟨wk_928, trivial⟩, wk_929⟩⟩⟩) (all_c (kc_204 hl wk_1403) (all_c (⟨cL_drop, 4, some .int, fun y hy => by subst hy; exact ⟨Nat.le_of_ble_eq_true rfl, ⟨_, wk_937, okL_drop hl, Or.inr ⟨rfl, _, rfl⟩⟩, wk_58, nc16, ⟨(by decide +kernel : (parseMethodDescriptor yL_drop.desc).map (fun d => d.parameters.length) = some 3), ⟨wk_935, trivial⟩, wk_936⟩⟩⟩) (all_c (kc_205 hl wk_1411) (all_c (⟨cL_isThere, 4, some .int, fun y hy => by subst hy; exact ⟨Nat.le_of_ble_eq_true rfl, ⟨_, wk_944, okL_isThere hl, Or.inr ⟨rfl, _, rfl⟩⟩, wk_58, nc16, ⟨(by decide +kernel : (parseMethodDescriptor yL_isThere.desc).map (fun d => d.parameters.length) = some 3), ⟨wk_942, trivial⟩, wk_943⟩⟩⟩) (all_c (kc_206 hl wk_1415) (all_c (⟨cL_isFixed, 4, some .int, fun y hy => by subst hy; exact ⟨Nat.le_of_ble_eq_true rfl, ⟨_, wk_951, okL_isFixed hl, Or.inr ⟨rfl, _, rfl⟩⟩, wk_58, nc16, ⟨(by decide +kernel : (parseMethodDescriptor yL_isFixed.desc).map (fun d => d.parameters.length) = some 3), ⟨wk_949, trivial⟩, wk_950⟩⟩⟩) (all_c (kc_207 hl wk_1419) (all_c (⟨cL_isSmall, 4, some .int, fun y hy => by subst hy; exact ⟨Nat.le_of_ble_eq_true rfl, ⟨_, wk_958, okL_isSmall hl, Or.inr ⟨rfl, _, rfl⟩⟩, wk_58, nc16, ⟨(by decide +kernel : (parseMethodDescriptor yL_isSmall.desc).map (fun d => d.parameters.length) = some 3), ⟨wk_956, trivial⟩, wk_957⟩⟩⟩) (all_c (kc_208 hl wk_1423) (all_c (⟨cL_end, 6, some .int, fun y hy => by subst hy; exact ⟨Nat.le_of_ble_eq_true rfl, ⟨_, wk_965, okL_end hl, Or.inr ⟨rfl, _, rfl⟩⟩, wk_58, nc16, ⟨(by decide +kernel : (parseMethodDescriptor yL_end.desc).map (fun d => d.parameters.length) = some 5), ⟨wk_963, trivial⟩, wk_964⟩⟩⟩) (all_c (kc_209 hl wk_1430) (all_c (⟨cL_take, 6, some .int, fun y hy => by subst hy; exact ⟨Nat.le_of_ble_eq_true rfl, ⟨_, wk_972, okL_take hl, Or.inr ⟨rfl, _, rfl⟩⟩, wk_58, nc16, ⟨(by decide +kernel : (parseMethodDescriptor yL_take.desc).map (fun d => d.parameters.length) = some 5), ⟨wk_970, trivial⟩, wk_971⟩⟩⟩) (all_c (kc_210 hl wk_1441) (all_c (⟨cL_cardText, 4, some .int, fun y hy => by subst hy; exact ⟨Nat.le_of_ble_eq_true rfl, ⟨_, wk_979, okL_cardText hl, Or.inr ⟨rfl, _, rfl⟩⟩, wk_58, nc16, ⟨(by decide +kernel : (parseMethodDescriptor yL_cardText.desc).map (fun d => d.parameters.length) = some 3), ⟨wk_977, trivial⟩, wk_978⟩⟩⟩) (all_c (kc_211 hl wk_1445) (all_c (⟨cL_isValid, 5, some .int, fun y hy => by subst hy; exact ⟨Nat.le_of_ble_eq_true rfl, ⟨_, wk_987, okL_isValid hl, Or.inr ⟨rfl, _, rfl⟩⟩, wk_58, nc16, ⟨(by decide +kernel : (parseMethodDescriptor yL_isValid.desc).map (fun d => d.parameters.length) = some 4), ⟨wk_985, trivial⟩, wk_986⟩⟩⟩) (all_c (kc_212 hl wk_1451) (all_c (⟨cL_isValidSmall, 5, some .int, fun y hy => by subst hy; exact ⟨Nat.le_of_ble_eq_true rfl, ⟨_, wk_994, okL_isValidSmall hl, Or.inr ⟨rfl, _, rfl⟩⟩, wk_58, nc16, ⟨(by decide +kernel : (parseMethodDescriptor yL_isValidSmall.desc).map (fun d => d.parameters.length) = some 4), ⟨wk_992, trivial⟩, wk_993⟩⟩⟩) (all_c (kc_213 hl wk_1462) (all_c (⟨cL_whichValid, 5, some .int, fun y hy => by subst hy; exact ⟨Nat.le_of_ble_eq_true rfl, ⟨_, wk_1001, okL_whichValid hl, Or.inr ⟨rfl, _, rfl⟩⟩, wk_58, nc16, ⟨(by decide +kernel : (parseMethodDescriptor yL_whichValid.desc).map (fun d => d.parameters.length) = some 4), ⟨wk_999, trivial⟩, wk_1000⟩⟩⟩) (all_c (kc_214 hl wk_1466) (all_c (⟨cL_around, 6, some .int, fun y hy => by subst hy; exact ⟨Nat.le_of_ble_eq_true rfl, ⟨_, wk_1008, okL_around hl, Or.inr ⟨rfl, _, rfl⟩⟩, wk_58, nc16, ⟨(by decide +kernel : (parseMethodDescriptor yL_around.desc).map (fun d => d.parameters.length) = some 5), ⟨wk_1006, trivial⟩, wk_1007⟩⟩⟩) (all_c (kc_215 hl wk_1473) (all_c (⟨cL_count, 6, some .int, fun y hy => by subst hy; exact ⟨Nat.le_of_ble_eq_true rfl, ⟨_, wk_1015, okL_count hl, Or.inr ⟨rfl, _, rfl⟩⟩, wk_58, nc16, ⟨(by decide +kernel : (parseMethodDescriptor yL_count.desc).map (fun d => d.parameters.length) = some 5), ⟨wk_1013, trivial⟩, wk_1014⟩⟩⟩) (all_c (kc_216 hl wk_1480) (all_c (⟨cL_who, 5, some .int, fun y hy => by subst hy; exact ⟨Nat.le_of_ble_eq_true rfl, ⟨_, wk_1023, okL_who hl, Or.inr ⟨rfl, _, rfl⟩⟩, wk_58, nc16, ⟨(by decide +kernel : (parseMethodDescriptor yL_who.desc).map (fun d => d.parameters.length) = some 4), ⟨wk_1021, trivial⟩, wk_1022⟩⟩⟩) (all_c (kc_217 hl wk_1484) (all_c (⟨cL_which, 4, some .int, fun y hy => by subst hy; exact ⟨Nat.le_of_ble_eq_true rfl, ⟨_, wk_1030, okL_which hl, Or.inr ⟨rfl, _, rfl⟩⟩, wk_58, nc16, ⟨(by decide +kernel : (parseMethodDescriptor yL_which.desc).map (fun d => d.parameters.length) = some 3), ⟨wk_1028, trivial⟩, wk_1029⟩⟩⟩) (all_c (kc_218 hl wk_1492) (all_c (kc_219 hl wk_1214) (all_c (⟨cL_areSame, 5, some .int, fun y hy => by subst hy; exact ⟨Nat.le_of_ble_eq_true rfl, ⟨_, wk_1037, okL_areSame hl, Or.inr ⟨rfl, _, rfl⟩⟩, wk_58, nc16, ⟨(by decide +kernel : (parseMethodDescriptor yL_areSame.desc).map (fun d => d.parameters.length) = some 4), ⟨wk_1035, trivial⟩, wk_1036⟩⟩⟩) (all_c (kc_220 hl wk_1500) (all_c (⟨cL_isSameAs, 5, some .int, fun y hy => by subst hy; exact ⟨Nat.le_of_ble_eq_true rfl, ⟨_, wk_1044, okL_isSameAs hl, Or.inr ⟨rfl, _, rfl⟩⟩, wk_58, nc16, ⟨(by decide +kernel : (parseMethodDescriptor yL_isSameAs.desc).map (fun d => d.parameters.length) = some 4), ⟨wk_1042, trivial⟩, wk_1043⟩⟩⟩) (all_c (kc_221 hl wk_1504) (all_c (⟨cL_likes, 4, some .int, fun y hy => by subst hy; exact ⟨Nat.le_of_ble_eq_true rfl, ⟨_, wk_1051, okL_likes hl, Or.inr ⟨rfl, _, rfl⟩⟩, wk_58, nc16, ⟨(by decide +kernel : (parseMethodDescriptor yL_likes.desc).map (fun d => d.parameters.length) = some 3), ⟨wk_1049, trivial⟩, wk_1050⟩⟩⟩) (all_c (kc_222 hl wk_1508) (all_c (⟨cL_lay, 4, some .int, fun y hy => by subst hy; exact ⟨Nat.le_of_ble_eq_true rfl, ⟨_, wk_1058, okL_lay hl, Or.inr ⟨rfl, _, rfl⟩⟩, wk_58, nc16, ⟨(by decide +kernel : (parseMethodDescriptor yL_lay.desc).map (fun d => d.parameters.length) = some 3), ⟨wk_1056, trivial⟩, wk_1057⟩⟩⟩) (all_c (kc_223 hl wk_1516) (all_c (⟨cL_seek, 5, some .int, fun y hy => by subst hy; exact ⟨Nat.le_of_ble_eq_true rfl, ⟨_, wk_1065, okL_seek hl, Or.inr ⟨rfl, _, rfl⟩⟩, wk_58, nc16, ⟨(by decide +kernel : (parseMethodDescriptor yL_seek.desc).map (fun d => d.parameters.length) = some 4), ⟨wk_1063, trivial⟩, wk_1064⟩⟩⟩) (all_c (kc_224 hl wk_1524) (all_c (⟨cL_howOften, 4, some .int, fun y hy => by subst hy; exact ⟨Nat.le_of_ble_eq_true rfl, ⟨_, wk_1072, okL_howOften hl, Or.inr ⟨rfl, _, rfl⟩⟩, wk_58, nc16, ⟨(by decide +kernel : (parseMethodDescriptor yL_howOften.desc).map (fun d => d.parameters.length) = some 3), ⟨wk_1070, trivial⟩, wk_1071⟩⟩⟩) (all_c (kc_225 hl wk_1532) (all_c (⟨cL_lift, 4, some .int, fun y hy => by subst hy; exact ⟨Nat.le_of_ble_eq_true rfl, ⟨_, wk_1079, okL_lift hl, Or.inr ⟨rfl, _, rfl⟩⟩, wk_58, nc16, ⟨(by decide +kernel : (parseMethodDescriptor yL_lift.desc).map (fun d => d.parameters.length) = some 3), ⟨wk_1077, trivial⟩, wk_1078⟩⟩⟩) (all_c (kc_226 hl wk_1586) (all_c (⟨cL_pick, 5, some .int, fun y hy => by subst hy; exact ⟨Nat.le_of_ble_eq_true rfl, ⟨_, wk_1090, okL_pick hl, Or.inr ⟨rfl, _, rfl⟩⟩, wk_58, nc16, ⟨(by decide +kernel : (parseMethodDescriptor yL_pick.desc).map (fun d => d.parameters.length) = some 4), ⟨wk_1088, trivial⟩, wk_1089⟩⟩⟩) (all_c (kc_227 hl wk_1599) (all_c (kc_228 hl wk_121) (all_c (kc_229 hl wk_1603) (all_c (kc_230 hl wk_125) (all_c (kc_231 hl wk_1628) (all_c (⟨cL_pile, 5, some .int, fun y hy => by subst hy; exact ⟨Nat.le_of_ble_eq_true rfl, ⟨_, wk_1102, okL_pile hl, Or.inr ⟨rfl, _, rfl⟩⟩, wk_58, nc16, ⟨(by decide +kernel : (parseMethodDescriptor yL_pile.desc).map (fun d => d.parameters.length) = some 4), ⟨wk_1100, trivial⟩, wk_1101⟩⟩⟩) (all_c (kc_232 hl wk_1632) (all_c (⟨cL_house, 4, some .int, fun y hy => by subst hy; exact ⟨Nat.le_of_ble_eq_true rfl, ⟨_, wk_1109, okL_house hl, Or.inr ⟨rfl, _, rfl⟩⟩, wk_58, nc16, ⟨(by decide +kernel : (parseMethodDescriptor yL_house.desc).map (fun d => d.parameters.length) = some 3), ⟨wk_1107, trivial⟩, wk_1108⟩⟩⟩) (all_c (kc_233 hl wk_1645) (all_c (kc_234 hl wk_129) (all_c (kc_235 hl wk_1654) (all_c (kc_134 hl wk_133) (all_c (kc_236 hl wk_1658) (all_c (kc_237 hl wk_244) (all_c (kc_238 hl wk_1662) (all_n))))))))))))))))))))))))))))))))))))))))))))))))))))))))))))))))))))))))))))))))))))))))))))))))))))))) all_n all_n (fun h => absurd rfl h) rfl all_n
end
/-! 69p.pil5.lean.txt -/
section
section
variable {g : RO} {Q : Ot → Hw → Prop} {w0 w : Hw}
variable {y nM : Nat} {kd : Int32}
theorem ext.k1 {w' : Hw} {a : Nat} {o : Ob} (k : ext g w w') (h : w a = some o) : w' a = some o := k.1 a o h
theorem sNext1 {q L D cap b : Nat} {c lr n mc : Int32} {h : Nat → Option Nat} (hq : w q = some (.inr (2, [.int c, .int lr, .int mc, .ref L]))) (hL : w L = some (.inr (3, [.int mc, .ref D, .int n]))) (rD : rd g w D = some (.inl (5, cap, qc h))) (k0 : 0 ≤ c.toInt) (k1 : c.toInt < n.toInt) (hn : n.toInt ≤ (cap : Int)) (hc : cap ≤ 15) (hb : h c.toNatClampNeg = some b) (hR : Q (.inl (some (.ref b))) (upw w q (.inr (2, [.int (c + 1), .int c, .int mc, .ref L])))) : WP (MJx35411_next_0502b g) Q (0, [some (.ref q), none, none], [], w, 0, 0) := sJx35411_next_0502b hq hL rD k0 k1 hn hc (fun e => by
  rw [hb] at e
  cases e) (fun b9 e => by
  rw [hb] at e
  cases e
  exact hR)
theorem sIter1 {L D cap : Nat} {mc n : Int32} {h : Nat → Option Nat} (hl : LL g w L D cap n h) (hL : w L = some (.inr (3, [.int mc, .ref D, .int n]))) (hQ : ∀ q, rd g w q = none → Q (.inl (some (.ref q))) (upw w q (.inr (2, [.int 0, .int (-1), .int mc, .ref L])))) : WP (MJx4a65c_iterator_32c93 g) Q (0, [some (.ref L)], [], w, 0, 0) := sJx4a65c_iterator_32c93 hl (fun q mc9 e hq => by
  rw [hL] at e
  cases e
  exact hQ q hq)
end
end
/-! 69p.pil6.lean.txt -/
section
section
variable {g : RO} {Q : Ot → Hw → Prop} {w0 w : Hw}
variable {y nM : Nat} {kd : Int32}
theorem sX3_fixedV {g : RO} {Q : Ot → Hw → Prop} {w : Hw} {p : Nat} (hp : isRow w p) (hQ : ∀ v : Int32, Q (.inl (some (.int v))) w) : WP (MX3_fixed g) Q (0, [some (.ref p)], [], w, 0, 0) := sX3_fixed hp (hQ 1) (hQ 0)
theorem sX3_smallV {g : RO} {Q : Ot → Hw → Prop} {w : Hw} {p : Nat} (hp : isRow w p) (hQ : ∀ v : Int32, Q (.inl (some (.int v))) w) : WP (MX3_small g) Q (0, [some (.ref p)], [], w, 0, 0) := sX3_small hp (hQ 1) (hQ 0)
theorem sX3_validV {g : RO} {Q : Ot → Hw → Prop} {w : Hw} {p : Nat} {a : Int64} {b : Int32} (hp : isRow w p) (hQ : ∀ v : Int32, Q (.inl (some (.int v))) w) : WP (MX3_valid g) Q (0, [some (.ref p), some (.long a), none, some (.int b)], [], w, 0, 0) := sX3_valid hp (hQ 1) (hQ 0)
theorem ext_up3 {w1 : Hw} {q : Nat} {o : Ob} (h : ext g w w1) (hq : rd g w1 q = none) : ext g w (upw w1 q o) := ext_up2 h (by
  have e : w q = none := by
    cases e : w q with
    | none => rfl
    | some o2 =>
      have e2 := rd_none hq
      rw [h.1 _ _ e] at e2
      cases e2
  unfold rd
  rw [e]
  exact rd_ro hq)
theorem ext_n {w' : Hw} {a : Nat} (k : ext g w w') (h : w' a = none) : w a = none := by
  cases e : w a with
  | none => rfl
  | some o =>
    rw [k.1 _ _ e] at h
    cases h
theorem pz1 {i n : Int32} {k : Nat} (h : i < n) (hk : (k : Int) ≤ i.toInt) (hn : 0 ≤ n.toInt ∧ n.toInt ≤ 12) : k + 1 ≤ 12 := by
  have := i32_lt h
  omega
theorem pz6 {i n : Int32} {k : Nat} (h : i < n) (hk : (k : Int) ≤ 6 * i.toInt) (hn : 0 ≤ n.toInt ∧ n.toInt ≤ 12) : k + 6 ≤ 72 := by
  have := i32_lt h
  omega
theorem pz1e {i n : Int32} {k : Nat} (h : ¬ i < n) (hn : 0 ≤ n.toInt ∧ n.toInt ≤ 12) (hi : i.toInt ≤ n.toInt) (hk : (k : Int) ≤ i.toInt) : k ≤ 12 := by
  omega
theorem pz6e {i n : Int32} {k : Nat} (h : ¬ i < n) (hn : 0 ≤ n.toInt ∧ n.toInt ≤ 12) (hi : i.toInt ≤ n.toInt) (hk : (k : Int) ≤ 6 * i.toInt) : k ≤ 72 := by
  omega
theorem pz_n {i n : Int32} (h : i < n) : (i + 1).toInt ≤ n.toInt := by
  rw [i32_s h]
  have := i32_lt h
  omega
theorem n6e : (6 : Int32).toNatClampNeg = 6 := rfl
theorem n6a : ¬ (6 : Int32) < 0 := by decide
theorem vpi6x : vp_in 0 6 ∧ vp_in 1 6 ∧ vp_in 2 6 ∧ vp_in 3 6 ∧ vp_in 4 6 ∧ vp_in 5 6 := ⟨vpiM (by decide) (by decide), vpiM (by decide) (by decide), vpiM (by decide) (by decide), vpiM (by decide) (by decide), vpiM (by decide) (by decide), vpiM (by decide) (by decide)⟩
theorem n5e : (5 : Int32).toNatClampNeg = 5 := rfl
theorem n5a : ¬ (5 : Int32) < 0 := by decide
theorem vpi5x : vp_in 0 5 ∧ vp_in 1 5 ∧ vp_in 2 5 ∧ vp_in 3 5 ∧ vp_in 4 5 := ⟨vpiM (by decide) (by decide), vpiM (by decide) (by decide), vpiM (by decide) (by decide), vpiM (by decide) (by decide), vpiM (by decide) (by decide)⟩
theorem vpi5n {a : Int32} (h0 : ¬ a < 0) (h1 : ¬ 4 < a) : vp_in a 5 := vpiM (i32_0 h0) (by
  have h := i32_nlt h1
  have e : (4 : Int32).toInt = 4 := rfl
  omega)
set_option maxHeartbeats 8000000 in
theorem lX3_pileNow_5 {a c n : Int32} (hM : MM g w0 y nM kd w) (hP : PN g w y n) (k0 : ¬ a < 0) (k1 : ¬ 7 < a) (c0 : ¬ c < 0) (c1 : ¬ 5 < c) (hQ : ∀ (v : Int32) w', ext g w w' → Q (.inl (some (.int v))) w') : ∀ (d : Nat) (i3 i4 : Int32) (o5 o6 : Option Value) (w' : Hw) (k m : Nat), ¬ i4 < 0 → ext g w w' → n.toInt - i4.toInt ≤ (d : Int) → i4.toInt ≤ n.toInt → (k : Int) ≤ i4.toInt → (m : Int) ≤ 6 * i4.toInt → WP (MX3_pileNow g) Q (5, [some (.ref y), some (.int a), some (.int c), some (.int i3), some (.int i4), o5, o6], [], w', k, m) := by
  have hnb := hP.bd
  intro d
  induction d with
  | zero =>
    intro i3 i4 o5 o6 w' k m z0 hk hm hi km mm
    rw [eX3_pileNow_5]
    simp only [eX3_pileNow_7, eX3_pileNow_8]
    with_reducible refine go_Y (hM.ext' (by first | assumption | exact ext.rf | exact ext_up2 ext.rf (by assumption) | exact ext_up3 (by assumption) (by assumption) | exact ext_up3 (ext_up2 ext.rf (by assumption)) (by assumption))) (fun _ _ _ _ _ _ => ?_)
    simp only [eX3_pileNow_11, wt_nil, wt_int, g0, gS, ex1, Nat.add_zero]
    with_reducible refine And.intro ?_ ?_
    with_reducible exact gtP (hM.ext' (by first | assumption | exact ext.rf | exact ext_up2 ext.rf (by assumption) | exact ext_up3 (by assumption) (by assumption) | exact ext_up3 (ext_up2 ext.rf (by assumption)) (by assumption))) (by first | assumption | exact isY.s | exact isY.fr (by assumption) (by assumption))
    with_reducible refine And.intro ?_ ?_
    omega
    with_reducible refine And.intro ?_ ?_
    omega
    with_reducible refine And.intro ?_ ?_
    omega
    with_reducible refine sSizeY (hP.ext (by first | assumption | exact ext.rf | exact ext_up2 ext.rf (by assumption) | exact ext_up3 (by assumption) (by assumption) | exact ext_up3 (ext_up2 ext.rf (by assumption)) (by assumption))) (by first | assumption | exact isY.s | exact isY.fr (by assumption) (by assumption)) ?_
    simp only [eX3_pileNow_14, eX3_pileNow_17, eX3_pileNow_18, eX3_pileNow_21, eX3_pileNow_112, eX3_pileNow_113, ite_le, kx_l, tl_s]
    split
    with_reducible exact (ic_z (by assumption) (by assumption)).elim
    with_reducible refine And.intro ?_ ?_
    with_reducible exact pz1e (by assumption) hnb (by assumption) (by assumption)
    with_reducible refine And.intro ?_ ?_
    with_reducible exact pz6e (by assumption) hnb (by assumption) (by assumption)
    with_reducible exact hQ _ _ (by first | assumption | exact ext.rf | exact ext_up2 ext.rf (by assumption) | exact ext_up3 (by assumption) (by assumption) | exact ext_up3 (ext_up2 ext.rf (by assumption)) (by assumption))
  | succ d ih =>
    intro i3 i4 o5 o6 w' k m z0 hk hm hi km mm
    rw [eX3_pileNow_5]
    simp only [eX3_pileNow_7, eX3_pileNow_8]
    with_reducible refine go_Y (hM.ext' (by first | assumption | exact ext.rf | exact ext_up2 ext.rf (by assumption) | exact ext_up3 (by assumption) (by assumption) | exact ext_up3 (ext_up2 ext.rf (by assumption)) (by assumption))) (fun _ _ _ _ _ _ => ?_)
    simp only [eX3_pileNow_11, wt_nil, wt_int, g0, gS, ex1, Nat.add_zero]
    with_reducible refine And.intro ?_ ?_
    with_reducible exact gtP (hM.ext' (by first | assumption | exact ext.rf | exact ext_up2 ext.rf (by assumption) | exact ext_up3 (by assumption) (by assumption) | exact ext_up3 (ext_up2 ext.rf (by assumption)) (by assumption))) (by first | assumption | exact isY.s | exact isY.fr (by assumption) (by assumption))
    with_reducible refine And.intro ?_ ?_
    omega
    with_reducible refine And.intro ?_ ?_
    omega
    with_reducible refine And.intro ?_ ?_
    omega
    with_reducible refine sSizeY (hP.ext (by first | assumption | exact ext.rf | exact ext_up2 ext.rf (by assumption) | exact ext_up3 (by assumption) (by assumption) | exact ext_up3 (ext_up2 ext.rf (by assumption)) (by assumption))) (by first | assumption | exact isY.s | exact isY.fr (by assumption) (by assumption)) ?_
    simp only [eX3_pileNow_14, eX3_pileNow_17, eX3_pileNow_18, eX3_pileNow_21, eX3_pileNow_112, eX3_pileNow_113, ite_le, kx_l, tl_s]
    split
    with_reducible refine go_Y (hM.ext' (by first | assumption | exact ext.rf | exact ext_up2 ext.rf (by assumption) | exact ext_up3 (by assumption) (by assumption) | exact ext_up3 (ext_up2 ext.rf (by assumption)) (by assumption))) (fun _ _ _ _ _ _ => ?_)
    simp only [eX3_pileNow_23, wt_nil, g0, gS, ex1, Nat.add_zero]
    with_reducible refine And.intro ?_ ?_
    with_reducible exact gtP (hM.ext' (by first | assumption | exact ext.rf | exact ext_up2 ext.rf (by assumption) | exact ext_up3 (by assumption) (by assumption) | exact ext_up3 (ext_up2 ext.rf (by assumption)) (by assumption))) (by first | assumption | exact isY.s | exact isY.fr (by assumption) (by assumption))
    with_reducible refine And.intro ?_ ?_
    omega
    with_reducible refine And.intro ?_ ?_
    omega
    with_reducible refine And.intro ?_ ?_
    omega
    with_reducible refine sGetP (hP.ext (by first | assumption | exact ext.rf | exact ext_up2 ext.rf (by assumption) | exact ext_up3 (by assumption) (by assumption) | exact ext_up3 (ext_up2 ext.rf (by assumption)) (by assumption))) (by first | assumption | exact isY.s | exact isY.fr (by assumption) (by assumption)) (by assumption) (by assumption) (fun _ _ => ?_)
    simp only [eX3_pileNow_26R, eX3_pileNow_29, eX3_pileNow_31, eX3_pileNow_33, eX3_pileNow_35R, eX3_pileNow_36, eX3_pileNow_37, eX3_pileNow_38, eX3_pileNow_39R, eX3_pileNow_40, eX3_pileNow_41, eX3_pileNow_43, eX3_pileNow_44, eX3_pileNow_47, kx_l, gb_s3, nl_int, tl_s, upw_s, n6e, upw2q]
    with_reducible refine And.intro ?_ ?_
    with_reducible exact isRow.ca (by first | assumption | exact isRow.ext (by assumption) (ext_up2 ext.rf (by assumption)))
    with_reducible refine And.intro ?_ ?_
    with_reducible exact n6a
    with_reducible refine And.intro ?_ ?_
    omega
    with_reducible refine And.intro ?_ ?_
    with_reducible exact pz1 (by assumption) (by assumption) hnb
    with_reducible refine And.intro ?_ ?_
    with_reducible exact pz6 (by assumption) (by assumption) hnb
    with_reducible intro _
    with_reducible intro _
    with_reducible refine And.intro ?_ ?_
    with_reducible exact vpi6x.1
    with_reducible refine go_Y (hM.ext' (by first | assumption | exact ext.rf | exact ext_up2 ext.rf (by assumption) | exact ext_up3 (by assumption) (by assumption) | exact ext_up3 (ext_up2 ext.rf (by assumption)) (by assumption))) (fun _ _ _ _ _ _ => ?_)
    simp only [eX3_pileNow_48, eX3_pileNow_49, eX3_pileNow_50R, wt_nil, wt_int, wt_ref, g0, gS, ex1, Nat.add_zero]
    with_reducible refine gl_M (hM.ext' (by first | assumption | exact ext.rf | exact ext_up2 ext.rf (by assumption) | exact ext_up3 (by assumption) (by assumption) | exact ext_up3 (ext_up2 ext.rf (by assumption)) (by assumption))) ?_
    with_reducible intro _
    with_reducible refine And.intro ?_ ?_
    with_reducible exact vpi8n k0 k1
    with_reducible refine And.intro ?_ ?_
    omega
    with_reducible refine And.intro ?_ ?_
    with_reducible exact pz1 (by assumption) (by assumption) hnb
    with_reducible refine And.intro ?_ ?_
    with_reducible exact pz6 (by assumption) (by assumption) hnb
    with_reducible refine sX3_validV (by first | assumption | exact isRow.ext (by assumption) (ext_up2 ext.rf (by assumption))) (fun _ => ?_)
    simp only [eX3_pileNow_53, eX3_pileNow_54R, eX3_pileNow_55, eX3_pileNow_56, eX3_pileNow_58, eX3_pileNow_59, eX3_pileNow_62, kx_l, gb_s3, tl_s, upw_s, upw2q]
    with_reducible refine And.intro ?_ ?_
    with_reducible exact vpi6x.2.1
    with_reducible refine go_Y (hM.ext' (by first | assumption | exact ext.rf | exact ext_up2 ext.rf (by assumption) | exact ext_up3 (by assumption) (by assumption) | exact ext_up3 (ext_up2 ext.rf (by assumption)) (by assumption))) (fun _ _ _ _ _ _ => ?_)
    simp only [eX3_pileNow_63, eX3_pileNow_64, eX3_pileNow_65R, wt_nil, wt_int, wt_ref, g0, gS, ex1, Nat.add_zero]
    with_reducible refine gl_M (hM.ext' (by first | assumption | exact ext.rf | exact ext_up2 ext.rf (by assumption) | exact ext_up3 (by assumption) (by assumption) | exact ext_up3 (ext_up2 ext.rf (by assumption)) (by assumption))) ?_
    with_reducible intro _
    with_reducible refine And.intro ?_ ?_
    with_reducible exact vpi8n k0 k1
    with_reducible refine And.intro ?_ ?_
    omega
    with_reducible refine And.intro ?_ ?_
    with_reducible exact pz1 (by assumption) (by assumption) hnb
    with_reducible refine And.intro ?_ ?_
    with_reducible exact pz6 (by assumption) (by assumption) hnb
    with_reducible refine sX3_validV (by first | assumption | exact isRow.ext (by assumption) (ext_up2 ext.rf (by assumption))) (fun _ => ?_)
    simp only [eX3_pileNow_68, eX3_pileNow_69R, eX3_pileNow_70, eX3_pileNow_71, eX3_pileNow_73R, kx_l, gb_s3, wt_nil, wt_int, wt_ref, tl_s, upw_s, Nat.add_zero, upw2q]
    with_reducible refine And.intro ?_ ?_
    with_reducible exact vpi6x.2.2.1
    with_reducible refine And.intro ?_ ?_
    omega
    with_reducible refine And.intro ?_ ?_
    with_reducible exact pz1 (by assumption) (by assumption) hnb
    with_reducible refine And.intro ?_ ?_
    with_reducible exact pz6 (by assumption) (by assumption) hnb
    with_reducible refine sX3_fixedV (by first | assumption | exact isRow.ext (by assumption) (ext_up2 ext.rf (by assumption))) (fun _ => ?_)
    simp only [eX3_pileNow_76, eX3_pileNow_77R, eX3_pileNow_78, eX3_pileNow_79, eX3_pileNow_81R, kx_l, gb_s3, wt_nil, wt_int, wt_ref, tl_s, upw_s, Nat.add_zero, upw2q]
    with_reducible refine And.intro ?_ ?_
    with_reducible exact vpi6x.2.2.2.1
    with_reducible refine And.intro ?_ ?_
    omega
    with_reducible refine And.intro ?_ ?_
    with_reducible exact pz1 (by assumption) (by assumption) hnb
    with_reducible refine And.intro ?_ ?_
    with_reducible exact pz6 (by assumption) (by assumption) hnb
    with_reducible refine sX3_smallV (by first | assumption | exact isRow.ext (by assumption) (ext_up2 ext.rf (by assumption))) (fun _ => ?_)
    simp only [eX3_pileNow_84, eX3_pileNow_85R, eX3_pileNow_86, eX3_pileNow_87, eX3_pileNow_88, eX3_pileNow_90, kx_l, gb_s3, wt_nil, wt_int, wt_ref, tl_s, upw_s, Nat.add_zero, upw2q]
    with_reducible refine And.intro ?_ ?_
    with_reducible exact vpi6x.2.2.2.2.1
    with_reducible refine And.intro ?_ ?_
    with_reducible refine go_Y (hM.ext' (by first | assumption | exact ext.rf | exact ext_up2 ext.rf (by assumption) | exact ext_up3 (by assumption) (by assumption) | exact ext_up3 (ext_up2 ext.rf (by assumption)) (by assumption))) (fun _ _ _ _ _ _ => ?_)
    simp only []
    with_reducible refine And.intro ?_ ?_
    omega
    with_reducible refine And.intro ?_ ?_
    with_reducible exact pz1 (by assumption) (by assumption) hnb
    with_reducible refine And.intro ?_ ?_
    with_reducible exact pz6 (by assumption) (by assumption) hnb
    with_reducible refine sX3_isAhead (hM.ext' (by first | assumption | exact ext.rf | exact ext_up2 ext.rf (by assumption) | exact ext_up3 (by assumption) (by assumption) | exact ext_up3 (ext_up2 ext.rf (by assumption)) (by assumption))) (hP.ext (by first | assumption | exact ext.rf | exact ext_up2 ext.rf (by assumption) | exact ext_up3 (by assumption) (by assumption) | exact ext_up3 (ext_up2 ext.rf (by assumption)) (by assumption))) (by assumption) (by assumption) (fun _ => ?_)
    simp only [eX3_pileNow_93, eX3_pileNow_94, eX3_pileNow_96, eX3_pileNow_97, eX3_pileNow_99, eX3_pileNow_100, eX3_pileNow_101, kx_l, gb_s3, wt_nil, wt_int, nl_ref, tl_s, rd_s, upw_s, Nat.add_zero, upw2q]
    with_reducible refine And.intro ?_ ?_
    with_reducible exact vpi6x.2.2.2.2.2
    with_reducible refine And.intro ?_ ?_
    with_reducible exact vpi6n c0 c1
    with_reducible refine And.intro ?_ ?_
    omega
    with_reducible refine And.intro ?_ ?_
    with_reducible exact pz1 (by assumption) (by assumption) hnb
    with_reducible refine And.intro ?_ ?_
    with_reducible exact pz6 (by assumption) (by assumption) hnb
    with_reducible refine sX3_one (fun _ => ?_)
    simp only [eX3_pileNow_104, eX3_pileNow_105, eX3_pileNow_106, eX3_pileNow_109, kx_l, nl_int, tl_s]
    with_reducible exact ih _ _ _ _ _ _ _ (ic_p (by assumption) (by assumption)) (by first | assumption | exact ext.rf | exact ext_up2 ext.rf (by assumption) | exact ext_up3 (by assumption) (by assumption) | exact ext_up3 (ext_up2 ext.rf (by assumption)) (by assumption)) (ic_s (by assumption) (by assumption)) (pz_n (by assumption)) (by rw [i32_s (by assumption)]; omega) (by rw [i32_s (by assumption)]; omega)
    with_reducible refine And.intro ?_ ?_
    with_reducible exact pz1e (by assumption) hnb (by assumption) (by assumption)
    with_reducible refine And.intro ?_ ?_
    with_reducible exact pz6e (by assumption) hnb (by assumption) (by assumption)
    with_reducible exact hQ _ _ (by first | assumption | exact ext.rf | exact ext_up2 ext.rf (by assumption) | exact ext_up3 (by assumption) (by assumption) | exact ext_up3 (ext_up2 ext.rf (by assumption)) (by assumption))
set_option maxHeartbeats 4000000 in
theorem sX3_pileNow {a c n : Int32} (hM : MM g w0 y nM kd w) (hP : PN g w y n) (k0 : ¬ a < 0) (k1 : ¬ 7 < a) (c0 : ¬ c < 0) (c1 : ¬ 5 < c) (hQ : ∀ (v : Int32) w', ext g w w' → Q (.inl (some (.int v))) w') : WP (MX3_pileNow g) Q (0, [some (.ref y), some (.int a), some (.int c), none, none, none, none], [], w, 0, 0) := by
  have hnb := hP.bd
  simp only [eX3_pileNow_0, eX3_pileNow_1, eX3_pileNow_2, eX3_pileNow_3, nl_int]
  with_reducible exact lX3_pileNow_5 hM hP k0 k1 c0 c1 hQ 70 _ _ _ _ _ _ _ (by decide) ext.rf hP.m (by have z : (0 : Int32).toInt = 0 := rfl; omega) (by decide) (by decide)
theorem sX3_pileNowM {a c : Int32} (hM : MM g w0 y nM kd w) (k0 : ¬ a < 0) (k1 : ¬ 7 < a) (c0 : ¬ c < 0) (c1 : ¬ 5 < c) (hQ : ∀ (v : Int32) w', ext g w w' → Q (.inl (some (.int v))) w') : WP (MX3_pileNow g) Q (0, [some (.ref y), some (.int a), some (.int c), none, none, none, none], [], w, 0, 0) := by
  obtain ⟨n, hP⟩ := PN.ofM hM
  exact sX3_pileNow hM hP k0 k1 c0 c1 hQ
end
end
/-! 69p.pil7.lean.txt -/
section
section
variable {g : RO} {Q : Ot → Hw → Prop} {w0 w : Hw}
variable {y nM : Nat} {kd : Int32}
set_option maxHeartbeats 4000000 in
theorem lX3_houseNow_10 {a n mc : Int32} {L D2 c2 q : Nat} {h2 : Nat → Option Nat} (hM : MM g w0 y nM kd w) (k0 : ¬ a < 0) (k1 : ¬ 4 < a) (hL : w L = some (.inr (3, [.int mc, .ref D2, .int n]))) (hl : LL g w L D2 c2 n h2) (hr : ∀ i b, h2 i = some b → isRow w b) (hn : n.toInt ≤ 12) (hq : rd g w q = none) (hQ : ∀ (v : Int32) w', ext g w w' → Q (.inl (some (.int v))) w') : ∀ (d : Nat) (i2 c lr : Int32) (o4 : Option Value) (k m : Nat), n.toInt - c.toInt ≤ (d : Int) → 0 ≤ c.toInt → c.toInt ≤ n.toInt → k ≤ 1 → m ≤ 4 → WP (MX3_houseNow g) Q (10, [some (.ref y), some (.int a), some (.int i2), some (.ref q), o4], [], upw w q (.inr (2, [.int c, .int lr, .int mc, .ref L])), k, m) := by
  have hLq : ∀ o, upw w q o L = some (.inr (3, [.int mc, .ref D2, .int n])) := fun o => (ext_up2 ext.rf hq).1 _ _ hL
  intro d
  induction d with
  | zero =>
    intro i2 c lr o4 k m hm c0 c1 hk hs
    rw [eX3_houseNow_10]
    simp only [eX3_houseNow_11, go_s, wt_nil, true_and, rd_s, Nat.add_zero]
    with_reducible refine And.intro ?_ ?_
    omega
    with_reducible refine And.intro ?_ ?_
    omega
    with_reducible refine And.intro ?_ ?_
    omega
    with_reducible refine sJx35411_hasNext_aae02 (cap := 0) (upw_s _ _ _) (hLq _) (fun _ => ?_) (fun _ => ?_)
    simp only [eX3_houseNow_16, eX3_houseNow_19, eX3_houseNow_20, eX3_houseNow_49, eX3_houseNow_50, eX3_houseNow_52R, eX3_houseNow_53, eX3_houseNow_54, eX3_houseNow_55, eX3_houseNow_56R, eX3_houseNow_57, eX3_houseNow_58, eX3_houseNow_59, kx_l, go_s, gi_s, wt_nil, tl_s, true_and, rd_s, upw_s, Nat.add_zero, if_true, upw2q, n5e, gi_s]
    with_reducible refine And.intro ?_ ?_
    with_reducible exact n5a
    with_reducible refine And.intro ?_ ?_
    omega
    with_reducible refine And.intro ?_ ?_
    omega
    with_reducible refine And.intro ?_ ?_
    omega
    with_reducible intro _
    with_reducible intro _
    with_reducible refine And.intro ?_ ?_
    with_reducible exact vpi5x.1
    with_reducible refine go_Y (hM.ext' (by first | assumption | exact ext.rf | exact ext_up2 ext.rf (by assumption) | exact ext_up3 (by assumption) (by assumption) | exact ext_up3 (ext_up2 ext.rf (by assumption)) (by assumption))) (fun _ _ _ _ _ _ => ?_)
    simp only [eX3_houseNow_62, wt_nil, wt_int, wt_ref, g0, gS, ex1, Nat.add_zero]
    with_reducible refine And.intro ?_ ?_
    with_reducible exact gtP (hM.ext' (by first | assumption | exact ext.rf | exact ext_up2 ext.rf (by assumption) | exact ext_up3 (by assumption) (by assumption) | exact ext_up3 (ext_up2 ext.rf (by assumption)) (by assumption))) (by first | assumption | exact isY.s | exact isY.fr (by assumption) (by assumption))
    with_reducible refine And.intro ?_ ?_
    omega
    with_reducible refine And.intro ?_ ?_
    omega
    with_reducible refine And.intro ?_ ?_
    omega
    with_reducible refine sSizeM (hM.ext' (by first | assumption | exact ext.rf | exact ext_up2 ext.rf (by assumption) | exact ext_up3 (by assumption) (by assumption) | exact ext_up3 (ext_up2 ext.rf (by assumption)) (by assumption))) (by first | assumption | exact isY.s | exact isY.fr (by assumption) (by assumption)) (fun _ _ => ?_)
    simp only [eX3_houseNow_65, eX3_houseNow_66R, eX3_houseNow_67, eX3_houseNow_68, eX3_houseNow_69, kx_l, gi_s, tl_s, upw_s, upw2q, gi_s]
    with_reducible refine And.intro ?_ ?_
    with_reducible exact vpi5x.2.1
    with_reducible refine go_Y (hM.ext' (by first | assumption | exact ext.rf | exact ext_up2 ext.rf (by assumption) | exact ext_up3 (by assumption) (by assumption) | exact ext_up3 (ext_up2 ext.rf (by assumption)) (by assumption))) (fun _ _ _ _ _ _ => ?_)
    simp only [eX3_houseNow_72, eX3_houseNow_73R, eX3_houseNow_74, eX3_houseNow_75, eX3_houseNow_76, gi_s, g0, gS, ex1, upw_s, upw2q, gi_s]
    with_reducible refine And.intro ?_ ?_
    with_reducible exact vpi5x.2.2.1
    with_reducible refine go_Y (hM.ext' (by first | assumption | exact ext.rf | exact ext_up2 ext.rf (by assumption) | exact ext_up3 (by assumption) (by assumption) | exact ext_up3 (ext_up2 ext.rf (by assumption)) (by assumption))) (fun _ _ _ _ _ _ => ?_)
    simp only [eX3_houseNow_79, eX3_houseNow_80R, eX3_houseNow_81, eX3_houseNow_82, eX3_houseNow_83, gi_s, g0, gS, ex1, upw_s, upw2q, gi_s]
    with_reducible refine And.intro ?_ ?_
    with_reducible exact vpi5x.2.2.2.1
    with_reducible refine go_Y (hM.ext' (by first | assumption | exact ext.rf | exact ext_up2 ext.rf (by assumption) | exact ext_up3 (by assumption) (by assumption) | exact ext_up3 (ext_up2 ext.rf (by assumption)) (by assumption))) (fun _ _ _ _ _ _ => ?_)
    simp only [eX3_houseNow_86, eX3_houseNow_87, eX3_houseNow_88, eX3_houseNow_89, eX3_houseNow_90, eX3_houseNow_91, gi_s, nl_int, g0, gS, ex1, rd_s, upw_s, upw2q, gi_s]
    with_reducible refine And.intro ?_ ?_
    with_reducible exact vpi5x.2.2.2.2
    with_reducible refine And.intro ?_ ?_
    with_reducible exact vpi5n k0 k1
    with_reducible refine And.intro ?_ ?_
    omega
    with_reducible refine And.intro ?_ ?_
    omega
    with_reducible exact hQ _ _ (by first | assumption | exact ext.rf | exact ext_up2 ext.rf (by assumption) | exact ext_up3 (by assumption) (by assumption) | exact ext_up3 (ext_up2 ext.rf (by assumption)) (by assumption))
    with_reducible exact (itz (by assumption) (by assumption) (by assumption)).elim
  | succ d ih =>
    intro i2 c lr o4 k m hm c0 c1 hk hs
    rw [eX3_houseNow_10]
    simp only [eX3_houseNow_11, go_s, wt_nil, true_and, rd_s, Nat.add_zero]
    with_reducible refine And.intro ?_ ?_
    omega
    with_reducible refine And.intro ?_ ?_
    omega
    with_reducible refine And.intro ?_ ?_
    omega
    with_reducible refine sJx35411_hasNext_aae02 (cap := 0) (upw_s _ _ _) (hLq _) (fun _ => ?_) (fun _ => ?_)
    simp only [eX3_houseNow_16, eX3_houseNow_19, eX3_houseNow_20, eX3_houseNow_49, eX3_houseNow_50, eX3_houseNow_52R, eX3_houseNow_53, eX3_houseNow_54, eX3_houseNow_55, eX3_houseNow_56R, eX3_houseNow_57, eX3_houseNow_58, eX3_houseNow_59, kx_l, go_s, gi_s, wt_nil, tl_s, true_and, rd_s, upw_s, Nat.add_zero, if_true, upw2q, n5e, gi_s]
    with_reducible refine And.intro ?_ ?_
    with_reducible exact n5a
    with_reducible refine And.intro ?_ ?_
    omega
    with_reducible refine And.intro ?_ ?_
    omega
    with_reducible refine And.intro ?_ ?_
    omega
    with_reducible intro _
    with_reducible intro _
    with_reducible refine And.intro ?_ ?_
    with_reducible exact vpi5x.1
    with_reducible refine go_Y (hM.ext' (by first | assumption | exact ext.rf | exact ext_up2 ext.rf (by assumption) | exact ext_up3 (by assumption) (by assumption) | exact ext_up3 (ext_up2 ext.rf (by assumption)) (by assumption))) (fun _ _ _ _ _ _ => ?_)
    simp only [eX3_houseNow_62, wt_nil, wt_int, wt_ref, g0, gS, ex1, Nat.add_zero]
    with_reducible refine And.intro ?_ ?_
    with_reducible exact gtP (hM.ext' (by first | assumption | exact ext.rf | exact ext_up2 ext.rf (by assumption) | exact ext_up3 (by assumption) (by assumption) | exact ext_up3 (ext_up2 ext.rf (by assumption)) (by assumption))) (by first | assumption | exact isY.s | exact isY.fr (by assumption) (by assumption))
    with_reducible refine And.intro ?_ ?_
    omega
    with_reducible refine And.intro ?_ ?_
    omega
    with_reducible refine And.intro ?_ ?_
    omega
    with_reducible refine sSizeM (hM.ext' (by first | assumption | exact ext.rf | exact ext_up2 ext.rf (by assumption) | exact ext_up3 (by assumption) (by assumption) | exact ext_up3 (ext_up2 ext.rf (by assumption)) (by assumption))) (by first | assumption | exact isY.s | exact isY.fr (by assumption) (by assumption)) (fun _ _ => ?_)
    simp only [eX3_houseNow_65, eX3_houseNow_66R, eX3_houseNow_67, eX3_houseNow_68, eX3_houseNow_69, kx_l, gi_s, tl_s, upw_s, upw2q, gi_s]
    with_reducible refine And.intro ?_ ?_
    with_reducible exact vpi5x.2.1
    with_reducible refine go_Y (hM.ext' (by first | assumption | exact ext.rf | exact ext_up2 ext.rf (by assumption) | exact ext_up3 (by assumption) (by assumption) | exact ext_up3 (ext_up2 ext.rf (by assumption)) (by assumption))) (fun _ _ _ _ _ _ => ?_)
    simp only [eX3_houseNow_72, eX3_houseNow_73R, eX3_houseNow_74, eX3_houseNow_75, eX3_houseNow_76, gi_s, g0, gS, ex1, upw_s, upw2q, gi_s]
    with_reducible refine And.intro ?_ ?_
    with_reducible exact vpi5x.2.2.1
    with_reducible refine go_Y (hM.ext' (by first | assumption | exact ext.rf | exact ext_up2 ext.rf (by assumption) | exact ext_up3 (by assumption) (by assumption) | exact ext_up3 (ext_up2 ext.rf (by assumption)) (by assumption))) (fun _ _ _ _ _ _ => ?_)
    simp only [eX3_houseNow_79, eX3_houseNow_80R, eX3_houseNow_81, eX3_houseNow_82, eX3_houseNow_83, gi_s, g0, gS, ex1, upw_s, upw2q, gi_s]
    with_reducible refine And.intro ?_ ?_
    with_reducible exact vpi5x.2.2.2.1
    with_reducible refine go_Y (hM.ext' (by first | assumption | exact ext.rf | exact ext_up2 ext.rf (by assumption) | exact ext_up3 (by assumption) (by assumption) | exact ext_up3 (ext_up2 ext.rf (by assumption)) (by assumption))) (fun _ _ _ _ _ _ => ?_)
    simp only [eX3_houseNow_86, eX3_houseNow_87, eX3_houseNow_88, eX3_houseNow_89, eX3_houseNow_90, eX3_houseNow_91, gi_s, nl_int, g0, gS, ex1, rd_s, upw_s, upw2q, gi_s]
    with_reducible refine And.intro ?_ ?_
    with_reducible exact vpi5x.2.2.2.2
    with_reducible refine And.intro ?_ ?_
    with_reducible exact vpi5n k0 k1
    with_reducible refine And.intro ?_ ?_
    omega
    with_reducible refine And.intro ?_ ?_
    omega
    with_reducible exact hQ _ _ (by first | assumption | exact ext.rf | exact ext_up2 ext.rf (by assumption) | exact ext_up3 (by assumption) (by assumption) | exact ext_up3 (ext_up2 ext.rf (by assumption)) (by assumption))
    simp only [eX3_houseNow_16, eX3_houseNow_19, eX3_houseNow_20, eX3_houseNow_49, eX3_houseNow_50, eX3_houseNow_52R, eX3_houseNow_53, eX3_houseNow_54, eX3_houseNow_55, eX3_houseNow_56R, eX3_houseNow_57, eX3_houseNow_58, eX3_houseNow_59, kx_l, go_s, gi_s, wt_nil, tl_s, true_and, rd_s, upw_s, Nat.add_zero, if_false, m10, upw2q, n5e, gi_s]
    with_reducible refine And.intro ?_ ?_
    omega
    with_reducible refine And.intro ?_ ?_
    omega
    with_reducible refine And.intro ?_ ?_
    omega
    with_reducible refine sJx35411_next_0502b (upw_s _ _ _) (hLq _) (hl.nq hq _).rD (by assumption) (itl (by assumption) (by assumption)) hl.nc hl.c15 (fun _ => ?_) (fun _ _ => ?_)
    simp only [eX3_houseNow_25N, eX3_houseNow_28N, eX3_houseNow_30, eX3_houseNow_31N, eX3_houseNow_33N, eX3_houseNow_40, eX3_houseNow_41, kx_l, wt_nil, wt_int, nl_ref, tl_s, Nat.add_zero, upw2q]
    with_reducible refine And.intro ?_ ?_
    omega
    with_reducible refine And.intro ?_ ?_
    omega
    with_reducible refine And.intro ?_ ?_
    omega
    with_reducible refine sX3_one (fun _ => ?_)
    simp only [eX3_houseNow_44, eX3_houseNow_45, eX3_houseNow_46, kx_l, nl_int, tl_s]
    with_reducible exact ih _ _ _ _ _ _ (by have e := its (n := n) (by assumption) (by assumption) (by assumption) (by omega); omega) (by have e := its (n := n) (by assumption) (by assumption) (by assumption) (by omega); omega) (by have e := its (n := n) (by assumption) (by assumption) (by assumption) (by omega); omega) (by first | assumption | omega) (by first | assumption | omega)
    simp only [eX3_houseNow_25R, eX3_houseNow_28, eX3_houseNow_30, eX3_houseNow_31, eX3_houseNow_33R, eX3_houseNow_36, eX3_houseNow_37, eX3_houseNow_41, kx_l, wt_nil, wt_int, nl_ref, tl_s, Nat.add_zero, upw2q]
    with_reducible refine And.intro ?_ ?_
    with_reducible exact isRow.ca ((hr _ _ (by assumption)).ext (ext_up2 ext.rf hq))
    with_reducible refine And.intro ?_ ?_
    omega
    with_reducible refine And.intro ?_ ?_
    omega
    with_reducible refine And.intro ?_ ?_
    omega
    with_reducible refine sX3_one (fun _ => ?_)
    simp only [eX3_houseNow_44, eX3_houseNow_45, eX3_houseNow_46, kx_l, nl_int, tl_s]
    with_reducible exact ih _ _ _ _ _ _ (by have e := its (n := n) (by assumption) (by assumption) (by assumption) (by omega); omega) (by have e := its (n := n) (by assumption) (by assumption) (by assumption) (by omega); omega) (by have e := its (n := n) (by assumption) (by assumption) (by assumption) (by omega); omega) (by first | assumption | omega) (by first | assumption | omega)
set_option maxHeartbeats 4000000 in
theorem sX3_houseNow {a : Int32} (hM : MM g w0 y nM kd w) (k0 : ¬ a < 0) (k1 : ¬ 4 < a) (hQ : ∀ (v : Int32) w', ext g w w' → Q (.inl (some (.int v))) w') : WP (MX3_houseNow g) Q (0, [some (.ref y), some (.int a), none, none, none], [], w, 0, 0) := by
  obtain ⟨cL0, pL0, D1, D2, c1, c2, th, rf, md, n, f, h1, h2, a1, a2, a3, a4, a5, a6, a7, a8, a9, b1⟩ := hM.1
  simp only [eX3_houseNow_0, eX3_houseNow_1, eX3_houseNow_2, eX3_houseNow_3, nl_int]
  with_reducible refine go_YE a1 ?_
  simp only [eX3_houseNow_6, wt_nil, g0, gS, ex1, Nat.zero_add]
  with_reducible refine And.intro ?_ ?_
  with_reducible exact a3.gt
  with_reducible refine And.intro ?_ ?_
  omega
  with_reducible refine And.intro ?_ ?_
  omega
  with_reducible refine And.intro ?_ ?_
  omega
  with_reducible refine sJx4a65c_iterator_32c93 a3 (fun _ _ _ _ => ?_)
  simp only [eX3_houseNow_9, kx_l, nl_int, tl_s]
  with_reducible exact lX3_houseNow_10 hM k0 k1 (by assumption) a3 a4 (by decide) (by assumption) hQ 70 _ _ _ _ _ _ (by decide) (by decide) (by decide) (by first | decide | omega) (by first | decide | omega)
end
end
/-! 69p.pil8.lean.txt -/
section
section
variable {g : RO} {Q : Ot → Hw → Prop} {w0 w : Hw}
variable {y nM : Nat} {kd : Int32}
set_option maxHeartbeats 4000000 in
theorem lX3_count_56 {a c e : Int32} {b : Nat} (hM : MM g w0 y nM kd w) (hC : CAt g w y a (some b)) (k0 : ¬ a < 0) (k1 : ¬ 5 < a) (k2 : ¬ 60 < e) (hQ : ∀ v : Int32, Q (.inl (some (.int v))) w) : ∀ (d : Nat) (i4 : Int32) (i5 : Int32) (k m : Nat), (e : Int32).toInt - i5.toInt ≤ (d : Int) → k ≤ 0 → m ≤ 0 → WP (MX3_count g) Q (56, [some (.ref y), some (.int a), some (.int c), some (.int e), some (.int i4), some (.int i5)], [], w, k, m) := by
  intro d
  induction d with
  | zero =>
    intro i4 i5 k m hm hk hs
    rw [eX3_count_56]
    simp only [eX3_count_58, eX3_count_59, eX3_count_62, eX3_count_64, eX3_count_65, eX3_count_68, eX3_count_97, eX3_count_99, ite_le]
    split
    with_reducible exact (ic_z (by assumption) (by assumption)).elim
    with_reducible refine And.intro ?_ ?_
    with_reducible assumption
    with_reducible refine And.intro ?_ ?_
    with_reducible assumption
    with_reducible exact hQ _
  | succ d ih =>
    intro i4 i5 k m hm hk hs
    rw [eX3_count_56]
    simp only [eX3_count_58, eX3_count_59, eX3_count_62, eX3_count_64, eX3_count_65, eX3_count_68, eX3_count_97, eX3_count_99, ite_le]
    split
    with_reducible refine go_Y (by first | assumption | exact MMz.m (by assumption) | exact MM.fr (by first | assumption | exact MMz.m (by assumption)) (by assumption) | exact MM.ext' (by assumption) (by assumption) | exact (by assumption : ∀ f', MM g w0 y nM kd (upw _ nM (.inl (0, 8, .inr (.inl f'))))) _ | exact (by assumption : ∀ (th' rf' md' : Int32), MM g w0 y nM kd (upw _ y (.inr (7, [.int th', .ref nM, .ref _, .ref _, .int rf', .int kd, .int md'])))) _ _ _) (fun _ _ _ _ _ _ => ?_)
    simp only [eX3_count_69, wt_nil, wt_int, g0, gS, ex1, Nat.add_zero]
    with_reducible refine And.intro ?_ ?_
    with_reducible exact gtC (by first | assumption | exact MMz.m (by assumption) | exact MM.fr (by first | assumption | exact MMz.m (by assumption)) (by assumption) | exact MM.ext' (by assumption) (by assumption) | exact (by assumption : ∀ f', MM g w0 y nM kd (upw _ nM (.inl (0, 8, .inr (.inl f'))))) _ | exact (by assumption : ∀ (th' rf' md' : Int32), MM g w0 y nM kd (upw _ y (.inr (7, [.int th', .ref nM, .ref _, .ref _, .int rf', .int kd, .int md'])))) _ _ _) (by first | assumption | exact isY.s | exact isY.fr (by assumption) (by assumption))
    with_reducible refine And.intro ?_ ?_
    omega
    with_reducible refine And.intro ?_ ?_
    with_reducible assumption
    with_reducible refine And.intro ?_ ?_
    with_reducible assumption
    with_reducible refine sGetY (by first | assumption | exact CAt.fr (by assumption) (by assumption)) (by first | assumption | exact isY.s | exact isY.fr (by assumption) (by assumption)) (by assumption) (by first | assumption | exact lt65 (by assumption)) ?_
    simp only [eX3_count_72R, eX3_count_75, eX3_count_76, eX3_count_77, eX3_count_79, eX3_count_80, eX3_count_81, eX3_count_82R, kx_l, wt_nil, wt_int, tl_s, Nat.add_zero]
    with_reducible refine And.intro ?_ ?_
    with_reducible exact isRow.ca (by first | assumption | exact CAt.row (by assumption) | exact isRow.ext (by assumption) (by assumption))
    with_reducible refine And.intro ?_ ?_
    omega
    with_reducible refine And.intro ?_ ?_
    with_reducible assumption
    with_reducible refine And.intro ?_ ?_
    with_reducible assumption
    with_reducible refine sX3_valid (by first | assumption | exact CAt.row (by assumption) | exact isRow.ext (by assumption) (by assumption)) ?_ ?_
    simp only [eX3_count_85, kx_l, wt_nil, wt_int, tl_s, Nat.add_zero]
    with_reducible refine And.intro ?_ ?_
    omega
    with_reducible refine And.intro ?_ ?_
    with_reducible assumption
    with_reducible refine And.intro ?_ ?_
    with_reducible assumption
    with_reducible refine sX3_one (fun _ => ?_)
    simp only [eX3_count_88, eX3_count_89, eX3_count_91, eX3_count_94, kx_l, nl_int, tl_s]
    with_reducible exact ih _ _ _ _ (ic_s (by assumption) (by assumption)) (by first | assumption | omega) (by first | assumption | omega)
    simp only [eX3_count_85, kx_l, wt_nil, wt_int, tl_s, Nat.add_zero]
    with_reducible refine And.intro ?_ ?_
    omega
    with_reducible refine And.intro ?_ ?_
    with_reducible assumption
    with_reducible refine And.intro ?_ ?_
    with_reducible assumption
    with_reducible refine sX3_one (fun _ => ?_)
    simp only [eX3_count_88, eX3_count_89, eX3_count_91, eX3_count_94, kx_l, nl_int, tl_s]
    with_reducible exact ih _ _ _ _ (ic_s (by assumption) (by assumption)) (by first | assumption | omega) (by first | assumption | omega)
    with_reducible refine And.intro ?_ ?_
    with_reducible assumption
    with_reducible refine And.intro ?_ ?_
    with_reducible assumption
    with_reducible exact hQ _
end
end
/-! 69p.pila.lean.txt -/
section
section
variable {g : RO} {Q : Ot → Hw → Prop} {w0 w : Hw}
variable {y nM : Nat} {kd : Int32}
/-- what the making leaves alone -/
def FI (g : RO) (y : Nat) (w w' : Hw) : Prop := (∀ (a : Nat) (o : Ob), w a = some o → a ≠ y → w' a = some o) ∧ ∀ (a : Nat) (o : Ob), g.2 a = some o → w a = none → w' a = none
theorem FI.ext {y : Nat} {w1 w' : Hw} (h : FI g y w w1) (k : ext g w1 w') : FI g y w w' := ⟨fun a o e n => k.1 _ _ (h.1 a o e n), fun a o e n => k.2 a o e (h.2 a o e n)⟩
theorem FI.up {y : Nat} {w1 : Hw} {o1 o : Ob} (h : FI g y w w1) (hy : w1 y = some o1) : FI g y w (upw w1 y o) := ⟨fun a o e n => by
    rw [upw_n n]
    exact h.1 a o e n, fun a o e n => by
    rw [upw_n]
    · exact h.2 a o e n
    · rintro rfl
      have := h.2 a o e n
      rw [hy] at this
      cases this⟩
theorem FI.eg {y : Nat} {w1 : Hw} (h : FI g y w w1) (hE : EG g w) : EG g w1 := ⟨hE.1.imp fun e z => ⟨z.1, z.2.1, h.2 e _ z.2.1 z.2.2⟩, hE.2⟩
theorem lt66 : ((6 : Int32) < 6) = False := eq_false (by decide)
theorem n8e : (8 : Int32).toNatClampNeg = 8 := rfl
theorem n8a : ¬ (8 : Int32) < 0 := by decide
theorem FI.rf {y : Nat} : FI g y w w := ⟨fun _ _ h _ => h, fun _ _ _ h => h⟩
end
end
/-! 69p.pilb.lean.txt -/
section
section
variable {g : RO} {Q : Ot → Hw → Prop} {w0 w : Hw}
variable {y nM : Nat} {kd : Int32}
theorem DG.fm (h : DG g w0) (hM : MM g w0 y nM kd w) : DG g w := ⟨h.1, h.2.1.imp fun a z => z.imp fun f z => ⟨z.1, z.2.1, hM.2.2 _ _ z.2.1 z.2.2⟩, h.2.2.imp fun a z => z.imp fun f z => ⟨z.1, z.2.1, hM.2.2 _ _ z.2.1 z.2.2⟩⟩
theorem STO.fm {s : Nat} (h : STO g w0 s) (hM : MM g w0 y nM kd w) : STO g w s := by
  obtain ⟨v, M, f, h1, z, a, b, c, d, e⟩ := h
  exact ⟨v, M, f, h1, z, a, hM.2.2 _ _ a b, c, hM.2.2 _ _ c d, e⟩
theorem TS.g1 {b d N : Nat} {c : Int32} (hT : TS g w0 b d N c w) : go (rd g w b) 1 fun _ => True := by
  obtain ⟨_, _, hb2, _, _, _, _, rb2, _⟩ := hT.opn g
  rw [rb2, go_s]
  trivial
theorem MM.ts {b d N : Nat} {c : Int32} {w1 : Hw} (hT : TS g w1 b d N c w) (hM : MM g w0 y nM kd w1) : MM g w0 y nM kd w := hM.ext' hT.1
theorem TS.row {b d N p : Nat} {c : Int32} {w1 : Hw} (hT : TS g w1 b d N c w) (h : isRow w1 p) : isRow w p := h.ext hT.1
/-- the model's own texts -/
def TXT (g : RO) (w : Hw) : Prop := (∃ s, g.1 21 = .ref s ∧ STO g w s ∧ STB g s 0) ∧ (∃ s, g.1 22 = .ref s) ∧ ∃ s, g.1 23 = .ref s ∧ STO g w s ∧ STB g s 1
end
end
/-! 69p.pilc.lean.txt -/
section
section
variable {g : RO} {Q : Ot → Hw → Prop} {w0 w : Hw}
variable {y nM : Nat} {kd : Int32}
theorem dl1 {i c : Int32} (h : ¬ c < i) (hc : c.toInt < 1000000) : (i + 1).toInt = i.toInt + 1 ∧ i.toInt ≤ c.toInt := ⟨i32_sl h hc, i32_nlt h⟩
theorem dl2 {i c : Int32} (h : i < c) : (i + 1).toInt = i.toInt + 1 ∧ i.toInt < c.toInt := ⟨i32_s h, i32_lt h⟩
theorem lt87 {a : Int32} (h : a < 8) : ¬ 7 < a := by
  have h1 := i32_lt h
  refine i32_of_nlt ?_
  have e : (7 : Int32).toInt = 7 := rfl
  have e6 : (8 : Int32).toInt = 8 := rfl
  omega
theorem lt43 {a : Int32} (h : a < 4) : ¬ 3 < a := by
  have h1 := i32_lt h
  refine i32_of_nlt ?_
  have e : (3 : Int32).toInt = 3 := rfl
  have e6 : (4 : Int32).toInt = 4 := rfl
  omega
theorem i0z : (0 : Int32).toInt = 0 := rfl
theorem dgk {i3 : Int32} {k : Nat} (h : ¬ 5 < i3) (hk : (k : Int) ≤ 16 + 12 * i3.toInt) : k + 12 ≤ 90 := by
  have e := i32_nlt h
  have z : (5 : Int32).toInt = 5 := rfl
  omega
theorem dgm {i3 : Int32} {m : Nat} (h : ¬ 5 < i3) (hm : (m : Int) ≤ 69 + 72 * i3.toInt) : m + 72 ≤ 520 := by
  have e := i32_nlt h
  have z : (5 : Int32).toInt = 5 := rfl
  omega
set_option maxHeartbeats 8000000 in
theorem elX3_digest_340 (hM : MM g w0 y nM kd w) (hQ : ∀ (v : Int64) w', ext g w w' → Q (.inl (some (.long v))) w') : ∀ (d : Nat) (i1 : Int64) (i3 : Int32) (o4 o5 : Option Value) (w' : Hw) (k m : Nat), ¬ i3 < 0 → ext g w w' → 6 - i3.toInt ≤ (d : Int) → i3.toInt ≤ 6 → (k : Int) ≤ 16 + 12 * i3.toInt → (m : Int) ≤ 69 + 72 * i3.toInt → WP (MX3_digest g) Q (340, [some (.ref y), some (.long i1), none, some (.int i3), o4, o5], [], w', k, m) := by
  have zb : (5 : Int32).toInt = 5 := rfl
  intro d
  induction d with
  | zero =>
    intro i1 i3 o4 o5 w' k m z0 hk hm hi km mm
    rw [eX3_digest_340]
    simp only [eX3_digest_341, eX3_digest_342, eX3_digest_345, eX3_digest_346, eX3_digest_347, eX3_digest_348, eX3_digest_349, eX3_digest_363, eX3_digest_364, eX3_digest_365, wt_nil, wt_long, Nat.add_zero]
    split
    with_reducible refine And.intro ?_ ?_
    omega
    with_reducible refine And.intro ?_ ?_
    omega
    with_reducible refine And.intro ?_ ?_
    omega
    with_reducible refine sX3_add (fun _ => ?_)
    simp only [eX3_digest_368, kx_l, tl_s]
    with_reducible refine And.intro ?_ ?_
    omega
    with_reducible refine And.intro ?_ ?_
    omega
    with_reducible exact hQ _ _ ((by first | assumption | exact ext.rf | exact ext.tr hk (by assumption)))
    with_reducible refine And.intro ?_ ?_
    with_reducible exact (by exfalso; have e := dl1 (c := 5) (i := i3) (by assumption) (by decide); omega)
    with_reducible refine And.intro ?_ ?_
    with_reducible exact (by exfalso; have e := dl1 (c := 5) (i := i3) (by assumption) (by decide); omega)
    with_reducible refine And.intro ?_ ?_
    with_reducible exact (by exfalso; have e := dl1 (c := 5) (i := i3) (by assumption) (by decide); omega)
    with_reducible refine And.intro ?_ ?_
    with_reducible exact (by exfalso; have e := dl1 (c := 5) (i := i3) (by assumption) (by decide); omega)
    with_reducible exact (by exfalso; have e := dl1 (c := 5) (i := i3) (by assumption) (by decide); omega)
  | succ d ih =>
    intro i1 i3 o4 o5 w' k m z0 hk hm hi km mm
    rw [eX3_digest_340]
    simp only [eX3_digest_341, eX3_digest_342, eX3_digest_345, eX3_digest_346, eX3_digest_347, eX3_digest_348, eX3_digest_349, eX3_digest_363, eX3_digest_364, eX3_digest_365, wt_nil, wt_long, Nat.add_zero]
    split
    with_reducible refine And.intro ?_ ?_
    omega
    with_reducible refine And.intro ?_ ?_
    omega
    with_reducible refine And.intro ?_ ?_
    omega
    with_reducible refine sX3_add (fun _ => ?_)
    simp only [eX3_digest_368, kx_l, tl_s]
    with_reducible refine And.intro ?_ ?_
    omega
    with_reducible refine And.intro ?_ ?_
    omega
    with_reducible exact hQ _ _ ((by first | assumption | exact ext.rf | exact ext.tr hk (by assumption)))
    with_reducible refine And.intro ?_ ?_
    with_reducible refine go_Y (hM.ext' (by first | assumption | exact ext.rf | exact ext.tr hk (by assumption))) (fun _ _ _ _ _ _ => ?_)
    simp only []
    with_reducible refine And.intro ?_ ?_
    omega
    with_reducible refine And.intro ?_ ?_
    with_reducible exact dgk (by assumption) km
    with_reducible refine And.intro ?_ ?_
    with_reducible exact dgm (by assumption) mm
    with_reducible refine sX3_pileNowM (hM.ext' (by first | assumption | exact ext.rf | exact ext.tr hk (by assumption))) (by decide) (by decide) (by assumption) (by assumption) (fun _ _ _ => ?_)
    simp only [eX3_digest_352, eX3_digest_353, kx_l, wt_nil, tl_s, Nat.add_zero]
    with_reducible refine And.intro ?_ ?_
    omega
    with_reducible refine And.intro ?_ ?_
    with_reducible exact dgk (by assumption) km
    with_reducible refine And.intro ?_ ?_
    with_reducible exact dgm (by assumption) mm
    with_reducible refine sX3_add (fun _ => ?_)
    simp only [eX3_digest_356, eX3_digest_357, eX3_digest_360, kx_l, nl_ref, nl_none, tl_s]
    with_reducible exact ih _ _ _ _ _ _ _ (ic_pl (by assumption) (by assumption) (by decide)) (by first | assumption | exact ext.rf | exact ext.tr hk (by assumption)) (by have e := dl1 (c := 5) (i := i3) (by assumption) (by decide); omega) (by have e := dl1 (c := 5) (i := i3) (by assumption) (by decide); omega) (by have e := dl1 (c := 5) (i := i3) (by assumption) (by decide); omega) (by have e := dl1 (c := 5) (i := i3) (by assumption) (by decide); omega)
set_option maxHeartbeats 8000000 in
theorem elX3_digest_316 (hM : MM g w0 y nM kd w) (hQ : ∀ (v : Int64) w', ext g w w' → Q (.inl (some (.long v))) w') : ∀ (d : Nat) (i1 : Int64) (i3 : Int32) (o4 o5 : Option Value) (w' : Hw) (k m : Nat), ¬ i3 < 0 → ext g w w' → 3 - i3.toInt ≤ (d : Int) → i3.toInt ≤ 3 → (k : Int) ≤ 16 → (m : Int) ≤ 69 → WP (MX3_digest g) Q (316, [some (.ref y), some (.long i1), none, some (.int i3), o4, o5], [], w', k, m) := by
  have zb : (2 : Int32).toInt = 2 := rfl
  intro d
  induction d with
  | zero =>
    intro i1 i3 o4 o5 w' k m z0 hk hm hi km mm
    rw [eX3_digest_316]
    simp only [eX3_digest_317, eX3_digest_318, eX3_digest_321, eX3_digest_322, eX3_digest_323, eX3_digest_324, eX3_digest_338, eX3_digest_339, wt_nil, wt_long, nl_none, Nat.add_zero]
    split
    with_reducible exact elX3_digest_340 hM hQ 70 _ _ _ _ _ _ _ (by decide) hk (by decide) (by decide) (by have z := i0z; omega) (by have z := i0z; omega)
    with_reducible refine And.intro ?_ ?_
    with_reducible exact (by exfalso; have e := dl1 (c := 2) (i := i3) (by assumption) (by decide); omega)
    with_reducible refine And.intro ?_ ?_
    with_reducible exact (by exfalso; have e := dl1 (c := 2) (i := i3) (by assumption) (by decide); omega)
    with_reducible refine And.intro ?_ ?_
    with_reducible exact (by exfalso; have e := dl1 (c := 2) (i := i3) (by assumption) (by decide); omega)
    with_reducible refine And.intro ?_ ?_
    with_reducible exact (by exfalso; have e := dl1 (c := 2) (i := i3) (by assumption) (by decide); omega)
    with_reducible exact (by exfalso; have e := dl1 (c := 2) (i := i3) (by assumption) (by decide); omega)
  | succ d ih =>
    intro i1 i3 o4 o5 w' k m z0 hk hm hi km mm
    rw [eX3_digest_316]
    simp only [eX3_digest_317, eX3_digest_318, eX3_digest_321, eX3_digest_322, eX3_digest_323, eX3_digest_324, eX3_digest_338, eX3_digest_339, wt_nil, wt_long, nl_none, Nat.add_zero]
    split
    with_reducible exact elX3_digest_340 hM hQ 70 _ _ _ _ _ _ _ (by decide) hk (by decide) (by decide) (by have z := i0z; omega) (by have z := i0z; omega)
    with_reducible refine And.intro ?_ ?_
    with_reducible refine go_Y (hM.ext' (by first | assumption | exact ext.rf | exact ext.tr hk (by assumption))) (fun _ _ _ _ _ _ => ?_)
    simp only []
    with_reducible refine And.intro ?_ ?_
    omega
    with_reducible refine And.intro ?_ ?_
    omega
    with_reducible refine And.intro ?_ ?_
    omega
    with_reducible refine sX3_whichNow_ (hM.ext' (by first | assumption | exact ext.rf | exact ext.tr hk (by assumption))) (fun _ => ?_)
    simp only [eX3_digest_327, eX3_digest_328, kx_l, wt_nil, tl_s, Nat.add_zero]
    with_reducible refine And.intro ?_ ?_
    omega
    with_reducible refine And.intro ?_ ?_
    omega
    with_reducible refine And.intro ?_ ?_
    omega
    with_reducible refine sX3_add (fun _ => ?_)
    simp only [eX3_digest_331, eX3_digest_332, eX3_digest_335, kx_l, nl_ref, nl_none, tl_s]
    with_reducible exact ih _ _ _ _ _ _ _ (ic_pl (by assumption) (by assumption) (by decide)) (by first | assumption | exact ext.rf | exact ext.tr hk (by assumption)) (by have e := dl1 (c := 2) (i := i3) (by assumption) (by decide); omega) (by have e := dl1 (c := 2) (i := i3) (by assumption) (by decide); omega) (by have e := dl1 (c := 2) (i := i3) (by assumption) (by decide); omega) (by have e := dl1 (c := 2) (i := i3) (by assumption) (by decide); omega)
end
end
