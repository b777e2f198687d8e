/-! 69.lawf.lean.txt -/
section
theorem wk_88 : (.classLink RL 8 RX1 : Jvm.Cond) ∈ WS := WS_t1 30 rfl rfl
theorem wk_89 : (.instantiable RX1 7 : Jvm.Cond) ∈ WS := WS_t1 31 rfl rfl
theorem vN_RL_8 : vNew RL 8 5 [.null, .null, .null, .int 0, .int 0, .int 0, .int 0] := ⟨RX1, TX1, tyX1, rfl, iW_5, tyX1_ok, wk_88, wk_89, wk_59, fun j hj => by match j, hj with | 0, _ => rfl | 1, _ => rfl | 2, _ => rfl | 3, _ => rfl | 4, _ => rfl | 5, _ => rfl | 6, _ => rfl | j + 7, hj => exact absurd hj (Nat.not_lt.mpr (Nat.le_add_left _ _))⟩
theorem wk_1114 : (.classLink RL 168 RX3 : Jvm.Cond) ∈ WS := WS_t5 96 rfl rfl
theorem wk_1115 : (.instantiable RX3 7 : Jvm.Cond) ∈ WS := WS_t5 97 rfl rfl
theorem vN_RL_168 : vNew RL 168 7 [.int 0, .null, .null, .null, .int 0, .int 0, .int 0] := ⟨RX3, TX3, tyX3, rfl, iW_7, tyX3_ok, wk_1114, wk_1115, wk_60, fun j hj => by match j, hj with | 0, _ => rfl | 1, _ => rfl | 2, _ => rfl | 3, _ => rfl | 4, _ => rfl | 5, _ => rfl | 6, _ => rfl | j + 7, hj => exact absurd hj (Nat.not_lt.mpr (Nat.le_add_left _ _))⟩
theorem wk_332 : (.classLink RL 14 RX2 : Jvm.Cond) ∈ WS := WS_t2 34 rfl rfl
theorem wk_333 : (.instantiable RX2 2 : Jvm.Cond) ∈ WS := WS_t2 35 rfl rfl
theorem wk_68 : (.initialized RX2 : Jvm.Cond) ∈ WS := WS_t1 10 rfl rfl
theorem vN_RL_14 : vNew RL 14 6 [.long 0, .null] := ⟨RX2, TX2, tyX2, rfl, iW_6, tyX2_ok, wk_332, wk_333, wk_68, fun j hj => by match j, hj with | 0, _ => rfl | 1, _ => rfl | j + 2, hj => exact absurd hj (Nat.not_lt.mpr (Nat.le_add_left _ _))⟩
theorem wk_92 : (.code yX1_init cX1_init 1 (none) : Jvm.Cond) ∈ WS := WS_t1 34 rfl rfl
theorem wk_90 : (.methodLink RL 167 yX1_init : Jvm.Cond) ∈ WS := WS_t1 32 rfl rfl
theorem wk_91 : (.instanceMethod yX1_init : Jvm.Cond) ∈ WS := WS_t1 33 rfl rfl
theorem wk_1118 : (.code yX3_init cX3_init 2 (none) : Jvm.Cond) ∈ WS := WS_t5 100 rfl rfl
theorem wk_1116 : (.methodLink RL 170 yX3_init : Jvm.Cond) ∈ WS := WS_t5 98 rfl rfl
theorem wk_1117 : (.instanceMethod yX3_init : Jvm.Cond) ∈ WS := WS_t5 99 rfl rfl
theorem wk_336 : (.code yX2_init cX2_init 1 (none) : Jvm.Cond) ∈ WS := WS_t2 38 rfl rfl
theorem wk_335 : (.instanceMethod yX2_init : Jvm.Cond) ∈ WS := WS_t2 37 rfl rfl
theorem wk_347 : (.codeWith yL_set cL_set 6 (some .int) [(0, 13, 16, 19)] : Jvm.Cond) ∈ WS := WS_t2 49 rfl rfl
theorem wk_58 : (.initialized RL : Jvm.Cond) ∈ WS := WS_t1 0 rfl rfl
theorem wk_345 : (.methodLink RL 172 yL_set : Jvm.Cond) ∈ WS := WS_t2 47 rfl rfl
theorem wk_346 : (.static yL_set : Jvm.Cond) ∈ WS := WS_t2 48 rfl rfl
theorem wk_1221 : (.code yX3_set cX3_set 5 (some .int) : Jvm.Cond) ∈ WS := WS_t5 203 rfl rfl
theorem wk_1218 : (.methodLink RL 177 yX3_set : Jvm.Cond) ∈ WS := WS_t5 200 rfl rfl
theorem wk_1219 : (.instanceMethod yX3_set : Jvm.Cond) ∈ WS := WS_t5 201 rfl rfl
theorem wk_1220 : (.selects RX3 yX3_set yX3_set : Jvm.Cond) ∈ WS := WS_t5 202 rfl rfl
theorem wk_427 : (.codeWith yL_setSmall cL_setSmall 5 (some .int) [(0, 11, 14, 19)] : Jvm.Cond) ∈ WS := WS_t2 129 rfl rfl
theorem wk_425 : (.methodLink RL 178 yL_setSmall : Jvm.Cond) ∈ WS := WS_t2 127 rfl rfl
theorem wk_426 : (.static yL_setSmall : Jvm.Cond) ∈ WS := WS_t2 128 rfl rfl
theorem wk_1243 : (.code yX3_setSmall cX3_setSmall 4 (some .int) : Jvm.Cond) ∈ WS := WS_t5 225 rfl rfl
theorem wk_1240 : (.methodLink RL 181 yX3_setSmall : Jvm.Cond) ∈ WS := WS_t5 222 rfl rfl
theorem wk_1241 : (.instanceMethod yX3_setSmall : Jvm.Cond) ∈ WS := WS_t5 223 rfl rfl
theorem wk_1242 : (.selects RX3 yX3_setSmall yX3_setSmall : Jvm.Cond) ∈ WS := WS_t5 224 rfl rfl
theorem wk_434 : (.codeWith yL_setEnd cL_setEnd 5 (some .int) [(0, 11, 14, 19), (0, 11, 18, 28)] : Jvm.Cond) ∈ WS := WS_t2 136 rfl rfl
theorem wk_432 : (.methodLink RL 182 yL_setEnd : Jvm.Cond) ∈ WS := WS_t2 134 rfl rfl
theorem wk_433 : (.static yL_setEnd : Jvm.Cond) ∈ WS := WS_t2 135 rfl rfl
theorem wk_1251 : (.code yX3_setEnd cX3_setEnd 4 (some .int) : Jvm.Cond) ∈ WS := WS_t5 233 rfl rfl
theorem wk_1248 : (.methodLink RL 184 yX3_setEnd : Jvm.Cond) ∈ WS := WS_t5 230 rfl rfl
theorem wk_1249 : (.instanceMethod yX3_setEnd : Jvm.Cond) ∈ WS := WS_t5 231 rfl rfl
theorem wk_1250 : (.selects RX3 yX3_setEnd yX3_setEnd : Jvm.Cond) ∈ WS := WS_t5 232 rfl rfl
theorem wk_470 : (.codeWith yL_move cL_move 5 (some .int) [(0, 11, 14, 19)] : Jvm.Cond) ∈ WS := WS_t2 172 rfl rfl
theorem wk_468 : (.methodLink RL 185 yL_move : Jvm.Cond) ∈ WS := WS_t2 170 rfl rfl
theorem wk_469 : (.static yL_move : Jvm.Cond) ∈ WS := WS_t2 171 rfl rfl
theorem wk_1262 : (.code yX3_move cX3_move 3 (some .int) : Jvm.Cond) ∈ WS := WS_t6 4 rfl rfl
theorem wk_1259 : (.methodLink RL 187 yX3_move : Jvm.Cond) ∈ WS := WS_t6 1 rfl rfl
theorem wk_1260 : (.instanceMethod yX3_move : Jvm.Cond) ∈ WS := WS_t6 2 rfl rfl
theorem wk_1261 : (.selects RX3 yX3_move yX3_move : Jvm.Cond) ∈ WS := WS_t6 3 rfl rfl
theorem wk_477 : (.codeWith yL_copy cL_copy 5 (some .int) [(0, 11, 14, 19)] : Jvm.Cond) ∈ WS := WS_t2 179 rfl rfl
theorem wk_475 : (.methodLink RL 188 yL_copy : Jvm.Cond) ∈ WS := WS_t2 177 rfl rfl
theorem wk_476 : (.static yL_copy : Jvm.Cond) ∈ WS := WS_t2 178 rfl rfl
theorem wk_1266 : (.code yX3_copy cX3_copy 3 (some .int) : Jvm.Cond) ∈ WS := WS_t6 8 rfl rfl
theorem wk_1263 : (.methodLink RL 190 yX3_copy : Jvm.Cond) ∈ WS := WS_t6 5 rfl rfl
theorem wk_1264 : (.instanceMethod yX3_copy : Jvm.Cond) ∈ WS := WS_t6 6 rfl rfl
theorem wk_1265 : (.selects RX3 yX3_copy yX3_copy : Jvm.Cond) ∈ WS := WS_t6 7 rfl rfl
theorem wk_484 : (.codeWith yL_ofNumber cL_ofNumber 5 (some .int) [(0, 11, 14, 19)] : Jvm.Cond) ∈ WS := WS_t2 186 rfl rfl
theorem wk_482 : (.methodLink RL 191 yL_ofNumber : Jvm.Cond) ∈ WS := WS_t2 184 rfl rfl
theorem wk_483 : (.static yL_ofNumber : Jvm.Cond) ∈ WS := WS_t2 185 rfl rfl
theorem wk_1270 : (.code yX3_ofNumber cX3_ofNumber 3 (some .int) : Jvm.Cond) ∈ WS := WS_t6 12 rfl rfl
theorem wk_1267 : (.methodLink RL 194 yX3_ofNumber : Jvm.Cond) ∈ WS := WS_t6 9 rfl rfl
theorem wk_1268 : (.instanceMethod yX3_ofNumber : Jvm.Cond) ∈ WS := WS_t6 10 rfl rfl
theorem wk_1269 : (.selects RX3 yX3_ofNumber yX3_ofNumber : Jvm.Cond) ∈ WS := WS_t6 11 rfl rfl
theorem wk_494 : (.codeWith yL_numberText cL_numberText 4 (some .int) [(0, 9, 12, 19)] : Jvm.Cond) ∈ WS := WS_t2 196 rfl rfl
theorem wk_492 : (.methodLink RL 195 yL_numberText : Jvm.Cond) ∈ WS := WS_t2 194 rfl rfl
theorem wk_493 : (.static yL_numberText : Jvm.Cond) ∈ WS := WS_t2 195 rfl rfl
theorem wk_1274 : (.code yX3_numberText cX3_numberText 2 (some (.object "java/lang/String")) : Jvm.Cond) ∈ WS := WS_t6 16 rfl rfl
theorem wk_1271 : (.methodLink RL 198 yX3_numberText : Jvm.Cond) ∈ WS := WS_t6 13 rfl rfl
theorem wk_1272 : (.instanceMethod yX3_numberText : Jvm.Cond) ∈ WS := WS_t6 14 rfl rfl
theorem wk_1273 : (.selects RX3 yX3_numberText yX3_numberText : Jvm.Cond) ∈ WS := WS_t6 15 rfl rfl
theorem wk_804 : (.codeWith yL_order cL_order 5 (some .int) [(0, 11, 14, 19)] : Jvm.Cond) ∈ WS := WS_t4 26 rfl rfl
theorem wk_802 : (.methodLink RL 199 yL_order : Jvm.Cond) ∈ WS := WS_t4 24 rfl rfl
theorem wk_803 : (.static yL_order : Jvm.Cond) ∈ WS := WS_t4 25 rfl rfl
theorem wk_1310 : (.code yX3_order cX3_order 3 (some .int) : Jvm.Cond) ∈ WS := WS_t6 52 rfl rfl
theorem wk_1307 : (.methodLink RL 201 yX3_order : Jvm.Cond) ∈ WS := WS_t6 49 rfl rfl
theorem wk_1308 : (.instanceMethod yX3_order : Jvm.Cond) ∈ WS := WS_t6 50 rfl rfl
theorem wk_1309 : (.selects RX3 yX3_order yX3_order : Jvm.Cond) ∈ WS := WS_t6 51 rfl rfl
theorem wk_811 : (.codeWith yL_two cL_two 6 (some .int) [(0, 13, 16, 19)] : Jvm.Cond) ∈ WS := WS_t4 33 rfl rfl
theorem wk_809 : (.methodLink RL 202 yL_two : Jvm.Cond) ∈ WS := WS_t4 31 rfl rfl
theorem wk_810 : (.static yL_two : Jvm.Cond) ∈ WS := WS_t4 32 rfl rfl
theorem wk_1317 : (.code yX3_two cX3_two 4 (some .int) : Jvm.Cond) ∈ WS := WS_t6 59 rfl rfl
theorem wk_1314 : (.methodLink RL 204 yX3_two : Jvm.Cond) ∈ WS := WS_t6 56 rfl rfl
theorem wk_1315 : (.instanceMethod yX3_two : Jvm.Cond) ∈ WS := WS_t6 57 rfl rfl
theorem wk_1316 : (.selects RX3 yX3_two yX3_two : Jvm.Cond) ∈ WS := WS_t6 58 rfl rfl
theorem wk_830 : (.codeWith yL_three cL_three 7 (some .int) [(0, 15, 18, 19)] : Jvm.Cond) ∈ WS := WS_t4 52 rfl rfl
theorem wk_828 : (.methodLink RL 205 yL_three : Jvm.Cond) ∈ WS := WS_t4 50 rfl rfl
theorem wk_829 : (.static yL_three : Jvm.Cond) ∈ WS := WS_t4 51 rfl rfl
theorem wk_1347 : (.code yX3_three cX3_three 5 (some .int) : Jvm.Cond) ∈ WS := WS_t6 89 rfl rfl
theorem wk_1344 : (.methodLink RL 208 yX3_three : Jvm.Cond) ∈ WS := WS_t6 86 rfl rfl
theorem wk_1345 : (.instanceMethod yX3_three : Jvm.Cond) ∈ WS := WS_t6 87 rfl rfl
theorem wk_1346 : (.selects RX3 yX3_three yX3_three : Jvm.Cond) ∈ WS := WS_t6 88 rfl rfl
theorem wk_840 : (.codeWith yL_four cL_four 8 (some .int) [(0, 17, 20, 19)] : Jvm.Cond) ∈ WS := WS_t4 62 rfl rfl
theorem wk_838 : (.methodLink RL 209 yL_four : Jvm.Cond) ∈ WS := WS_t4 60 rfl rfl
theorem wk_839 : (.static yL_four : Jvm.Cond) ∈ WS := WS_t4 61 rfl rfl
theorem wk_1351 : (.code yX3_four cX3_four 6 (some .int) : Jvm.Cond) ∈ WS := WS_t6 93 rfl rfl
theorem wk_1348 : (.methodLink RL 212 yX3_four : Jvm.Cond) ∈ WS := WS_t6 90 rfl rfl
theorem wk_1349 : (.instanceMethod yX3_four : Jvm.Cond) ∈ WS := WS_t6 91 rfl rfl
theorem wk_1350 : (.selects RX3 yX3_four yX3_four : Jvm.Cond) ∈ WS := WS_t6 92 rfl rfl
theorem wk_847 : (.codeWith yL_twoSmall cL_twoSmall 6 (some .int) [(0, 13, 16, 19)] : Jvm.Cond) ∈ WS := WS_t4 69 rfl rfl
theorem wk_845 : (.methodLink RL 213 yL_twoSmall : Jvm.Cond) ∈ WS := WS_t4 67 rfl rfl
theorem wk_846 : (.static yL_twoSmall : Jvm.Cond) ∈ WS := WS_t4 68 rfl rfl
theorem wk_1355 : (.code yX3_twoSmall cX3_twoSmall 4 (some .int) : Jvm.Cond) ∈ WS := WS_t6 97 rfl rfl
theorem wk_1352 : (.methodLink RL 215 yX3_twoSmall : Jvm.Cond) ∈ WS := WS_t6 94 rfl rfl
theorem wk_1353 : (.instanceMethod yX3_twoSmall : Jvm.Cond) ∈ WS := WS_t6 95 rfl rfl
theorem wk_1354 : (.selects RX3 yX3_twoSmall yX3_twoSmall : Jvm.Cond) ∈ WS := WS_t6 96 rfl rfl
theorem wk_854 : (.codeWith yL_threeSmall cL_threeSmall 7 (some .int) [(0, 15, 18, 19)] : Jvm.Cond) ∈ WS := WS_t4 76 rfl rfl
theorem wk_852 : (.methodLink RL 216 yL_threeSmall : Jvm.Cond) ∈ WS := WS_t4 74 rfl rfl
theorem wk_853 : (.static yL_threeSmall : Jvm.Cond) ∈ WS := WS_t4 75 rfl rfl
theorem wk_1359 : (.code yX3_threeSmall cX3_threeSmall 5 (some .int) : Jvm.Cond) ∈ WS := WS_t6 101 rfl rfl
theorem wk_1356 : (.methodLink RL 218 yX3_threeSmall : Jvm.Cond) ∈ WS := WS_t6 98 rfl rfl
theorem wk_1357 : (.instanceMethod yX3_threeSmall : Jvm.Cond) ∈ WS := WS_t6 99 rfl rfl
theorem wk_1358 : (.selects RX3 yX3_threeSmall yX3_threeSmall : Jvm.Cond) ∈ WS := WS_t6 100 rfl rfl
theorem wk_861 : (.codeWith yL_fourSmall cL_fourSmall 8 (some .int) [(0, 17, 20, 19)] : Jvm.Cond) ∈ WS := WS_t4 83 rfl rfl
theorem wk_859 : (.methodLink RL 219 yL_fourSmall : Jvm.Cond) ∈ WS := WS_t4 81 rfl rfl
theorem wk_860 : (.static yL_fourSmall : Jvm.Cond) ∈ WS := WS_t4 82 rfl rfl
theorem wk_1363 : (.code yX3_fourSmall cX3_fourSmall 6 (some .int) : Jvm.Cond) ∈ WS := WS_t6 105 rfl rfl
theorem wk_1360 : (.methodLink RL 221 yX3_fourSmall : Jvm.Cond) ∈ WS := WS_t6 102 rfl rfl
theorem wk_1361 : (.instanceMethod yX3_fourSmall : Jvm.Cond) ∈ WS := WS_t6 103 rfl rfl
theorem wk_1362 : (.selects RX3 yX3_fourSmall yX3_fourSmall : Jvm.Cond) ∈ WS := WS_t6 104 rfl rfl
theorem wk_868 : (.codeWith yL_again cL_again 5 (some .int) [(0, 11, 14, 19), (0, 11, 18, 74)] : Jvm.Cond) ∈ WS := WS_t4 90 rfl rfl
theorem wk_866 : (.methodLink RL 222 yL_again : Jvm.Cond) ∈ WS := WS_t4 88 rfl rfl
theorem wk_867 : (.static yL_again : Jvm.Cond) ∈ WS := WS_t4 89 rfl rfl
theorem wk_1367 : (.code yX3_again cX3_again 10 (some .int) : Jvm.Cond) ∈ WS := WS_t6 109 rfl rfl
theorem wk_1364 : (.methodLink RL 224 yX3_again : Jvm.Cond) ∈ WS := WS_t6 106 rfl rfl
theorem wk_1365 : (.instanceMethod yX3_again : Jvm.Cond) ∈ WS := WS_t6 107 rfl rfl
theorem wk_1366 : (.selects RX3 yX3_again yX3_again : Jvm.Cond) ∈ WS := WS_t6 108 rfl rfl
theorem wk_902 : (.codeWith yL_same cL_same 5 (some .int) [(0, 11, 14, 19), (0, 11, 18, 74)] : Jvm.Cond) ∈ WS := WS_t4 124 rfl rfl
theorem wk_900 : (.methodLink RL 225 yL_same : Jvm.Cond) ∈ WS := WS_t4 122 rfl rfl
theorem wk_901 : (.static yL_same : Jvm.Cond) ∈ WS := WS_t4 123 rfl rfl
theorem wk_1384 : (.code yX3_same_ cX3_same_ 4 (some .int) : Jvm.Cond) ∈ WS := WS_t6 126 rfl rfl
theorem wk_1381 : (.methodLink RL 227 yX3_same_ : Jvm.Cond) ∈ WS := WS_t6 123 rfl rfl
theorem wk_1382 : (.instanceMethod yX3_same_ : Jvm.Cond) ∈ WS := WS_t6 124 rfl rfl
theorem wk_1383 : (.selects RX3 yX3_same_ yX3_same_ : Jvm.Cond) ∈ WS := WS_t6 125 rfl rfl
theorem wk_909 : (.codeWith yL_outer cL_outer 5 (some .int) [(0, 11, 14, 19), (0, 11, 18, 74)] : Jvm.Cond) ∈ WS := WS_t4 131 rfl rfl
theorem wk_907 : (.methodLink RL 228 yL_outer : Jvm.Cond) ∈ WS := WS_t4 129 rfl rfl
theorem wk_908 : (.static yL_outer : Jvm.Cond) ∈ WS := WS_t4 130 rfl rfl
theorem wk_1391 : (.code yX3_outer cX3_outer 4 (some .int) : Jvm.Cond) ∈ WS := WS_t6 133 rfl rfl
theorem wk_1388 : (.methodLink RL 230 yX3_outer : Jvm.Cond) ∈ WS := WS_t6 130 rfl rfl
theorem wk_1389 : (.instanceMethod yX3_outer : Jvm.Cond) ∈ WS := WS_t6 131 rfl rfl
theorem wk_1390 : (.selects RX3 yX3_outer yX3_outer : Jvm.Cond) ∈ WS := WS_t6 132 rfl rfl
theorem wk_916 : (.codeWith yL_inner cL_inner 5 (some .int) [(0, 11, 14, 19), (0, 11, 18, 74)] : Jvm.Cond) ∈ WS := WS_t4 138 rfl rfl
theorem wk_914 : (.methodLink RL 231 yL_inner : Jvm.Cond) ∈ WS := WS_t4 136 rfl rfl
theorem wk_915 : (.static yL_inner : Jvm.Cond) ∈ WS := WS_t4 137 rfl rfl
theorem wk_1398 : (.code yX3_inner cX3_inner 4 (some .int) : Jvm.Cond) ∈ WS := WS_t6 140 rfl rfl
theorem wk_1395 : (.methodLink RL 233 yX3_inner : Jvm.Cond) ∈ WS := WS_t6 137 rfl rfl
theorem wk_1396 : (.instanceMethod yX3_inner : Jvm.Cond) ∈ WS := WS_t6 138 rfl rfl
theorem wk_1397 : (.selects RX3 yX3_inner yX3_inner : Jvm.Cond) ∈ WS := WS_t6 139 rfl rfl
theorem wk_923 : (.codeWith yL_span cL_span 6 (some .int) [(0, 13, 16, 19), (0, 13, 20, 74)] : Jvm.Cond) ∈ WS := WS_t4 145 rfl rfl
theorem wk_921 : (.methodLink RL 234 yL_span : Jvm.Cond) ∈ WS := WS_t4 143 rfl rfl
theorem wk_922 : (.static yL_span : Jvm.Cond) ∈ WS := WS_t4 144 rfl rfl
theorem wk_1402 : (.code yX3_span cX3_span 4 (some .int) : Jvm.Cond) ∈ WS := WS_t6 144 rfl rfl
theorem wk_1399 : (.methodLink RL 236 yX3_span : Jvm.Cond) ∈ WS := WS_t6 141 rfl rfl
theorem wk_1400 : (.instanceMethod yX3_span : Jvm.Cond) ∈ WS := WS_t6 142 rfl rfl
theorem wk_1401 : (.selects RX3 yX3_span yX3_span : Jvm.Cond) ∈ WS := WS_t6 143 rfl rfl
theorem wk_930 : (.codeWith yL_shift cL_shift 5 (some .int) [(0, 11, 14, 19), (0, 11, 18, 74)] : Jvm.Cond) ∈ WS := WS_t4 152 rfl rfl
theorem wk_928 : (.methodLink RL 237 yL_shift : Jvm.Cond) ∈ WS := WS_t4 150 rfl rfl
theorem wk_929 : (.static yL_shift : Jvm.Cond) ∈ WS := WS_t4 151 rfl rfl
theorem wk_1406 : (.code yX3_shift cX3_shift 4 (some .int) : Jvm.Cond) ∈ WS := WS_t6 148 rfl rfl
theorem wk_1403 : (.methodLink RL 239 yX3_shift : Jvm.Cond) ∈ WS := WS_t6 145 rfl rfl
theorem wk_1404 : (.instanceMethod yX3_shift : Jvm.Cond) ∈ WS := WS_t6 146 rfl rfl
theorem wk_1405 : (.selects RX3 yX3_shift yX3_shift : Jvm.Cond) ∈ WS := WS_t6 147 rfl rfl
theorem wk_937 : (.codeWith yL_drop cL_drop 4 (some .int) [(0, 10, 13, 19)] : Jvm.Cond) ∈ WS := WS_t4 159 rfl rfl
theorem wk_935 : (.methodLink RL 240 yL_drop : Jvm.Cond) ∈ WS := WS_t4 157 rfl rfl
theorem wk_936 : (.static yL_drop : Jvm.Cond) ∈ WS := WS_t4 158 rfl rfl
theorem wk_1414 : (.code yX3_drop cX3_drop 3 (some .int) : Jvm.Cond) ∈ WS := WS_t6 156 rfl rfl
theorem wk_1411 : (.methodLink RL 242 yX3_drop : Jvm.Cond) ∈ WS := WS_t6 153 rfl rfl
theorem wk_1412 : (.instanceMethod yX3_drop : Jvm.Cond) ∈ WS := WS_t6 154 rfl rfl
theorem wk_1413 : (.selects RX3 yX3_drop yX3_drop : Jvm.Cond) ∈ WS := WS_t6 155 rfl rfl
theorem wk_944 : (.codeWith yL_isThere cL_isThere 4 (some .int) [(0, 17, 20, 19)] : Jvm.Cond) ∈ WS := WS_t4 166 rfl rfl
theorem wk_942 : (.methodLink RL 243 yL_isThere : Jvm.Cond) ∈ WS := WS_t4 164 rfl rfl
theorem wk_943 : (.static yL_isThere : Jvm.Cond) ∈ WS := WS_t4 165 rfl rfl
theorem wk_1418 : (.code yX3_isThere cX3_isThere 2 (some .boolean) : Jvm.Cond) ∈ WS := WS_t6 160 rfl rfl
theorem wk_1415 : (.methodLink RL 245 yX3_isThere : Jvm.Cond) ∈ WS := WS_t6 157 rfl rfl
theorem wk_1416 : (.instanceMethod yX3_isThere : Jvm.Cond) ∈ WS := WS_t6 158 rfl rfl
theorem wk_1417 : (.selects RX3 yX3_isThere yX3_isThere : Jvm.Cond) ∈ WS := WS_t6 159 rfl rfl
theorem wk_951 : (.codeWith yL_isFixed cL_isFixed 4 (some .int) [(0, 17, 20, 19), (0, 17, 23, 74)] : Jvm.Cond) ∈ WS := WS_t4 173 rfl rfl
theorem wk_949 : (.methodLink RL 246 yL_isFixed : Jvm.Cond) ∈ WS := WS_t4 171 rfl rfl
theorem wk_950 : (.static yL_isFixed : Jvm.Cond) ∈ WS := WS_t4 172 rfl rfl
theorem wk_1422 : (.code yX3_isFixed cX3_isFixed 2 (some .boolean) : Jvm.Cond) ∈ WS := WS_t6 164 rfl rfl
theorem wk_1419 : (.methodLink RL 248 yX3_isFixed : Jvm.Cond) ∈ WS := WS_t6 161 rfl rfl
theorem wk_1420 : (.instanceMethod yX3_isFixed : Jvm.Cond) ∈ WS := WS_t6 162 rfl rfl
theorem wk_1421 : (.selects RX3 yX3_isFixed yX3_isFixed : Jvm.Cond) ∈ WS := WS_t6 163 rfl rfl
theorem wk_958 : (.codeWith yL_isSmall cL_isSmall 4 (some .int) [(0, 17, 20, 19), (0, 17, 23, 74)] : Jvm.Cond) ∈ WS := WS_t4 180 rfl rfl
theorem wk_956 : (.methodLink RL 249 yL_isSmall : Jvm.Cond) ∈ WS := WS_t4 178 rfl rfl
theorem wk_957 : (.static yL_isSmall : Jvm.Cond) ∈ WS := WS_t4 179 rfl rfl
theorem wk_1426 : (.code yX3_isSmall cX3_isSmall 2 (some .boolean) : Jvm.Cond) ∈ WS := WS_t6 168 rfl rfl
theorem wk_1423 : (.methodLink RL 251 yX3_isSmall : Jvm.Cond) ∈ WS := WS_t6 165 rfl rfl
theorem wk_1424 : (.instanceMethod yX3_isSmall : Jvm.Cond) ∈ WS := WS_t6 166 rfl rfl
theorem wk_1425 : (.selects RX3 yX3_isSmall yX3_isSmall : Jvm.Cond) ∈ WS := WS_t6 167 rfl rfl
theorem wk_965 : (.codeWith yL_end cL_end 6 (some .int) [(0, 13, 16, 19), (0, 13, 20, 28), (0, 13, 24, 74)] : Jvm.Cond) ∈ WS := WS_t4 187 rfl rfl
theorem wk_963 : (.methodLink RL 252 yL_end : Jvm.Cond) ∈ WS := WS_t4 185 rfl rfl
theorem wk_964 : (.static yL_end : Jvm.Cond) ∈ WS := WS_t4 186 rfl rfl
theorem wk_1433 : (.code yX3_end cX3_end 4 (some .int) : Jvm.Cond) ∈ WS := WS_t6 175 rfl rfl
theorem wk_1430 : (.methodLink RL 255 yX3_end : Jvm.Cond) ∈ WS := WS_t6 172 rfl rfl
theorem wk_1431 : (.instanceMethod yX3_end : Jvm.Cond) ∈ WS := WS_t6 173 rfl rfl
theorem wk_1432 : (.selects RX3 yX3_end yX3_end : Jvm.Cond) ∈ WS := WS_t6 174 rfl rfl
theorem wk_972 : (.codeWith yL_take cL_take 6 (some .int) [(0, 13, 16, 19), (0, 13, 20, 28), (0, 13, 24, 74)] : Jvm.Cond) ∈ WS := WS_t4 194 rfl rfl
theorem wk_970 : (.methodLink RL 256 yL_take : Jvm.Cond) ∈ WS := WS_t4 192 rfl rfl
theorem wk_971 : (.static yL_take : Jvm.Cond) ∈ WS := WS_t4 193 rfl rfl
theorem wk_1444 : (.code yX3_take cX3_take 4 (some .int) : Jvm.Cond) ∈ WS := WS_t6 186 rfl rfl
theorem wk_1441 : (.methodLink RL 258 yX3_take : Jvm.Cond) ∈ WS := WS_t6 183 rfl rfl
theorem wk_1442 : (.instanceMethod yX3_take : Jvm.Cond) ∈ WS := WS_t6 184 rfl rfl
theorem wk_1443 : (.selects RX3 yX3_take yX3_take : Jvm.Cond) ∈ WS := WS_t6 185 rfl rfl
theorem wk_979 : (.codeWith yL_cardText cL_cardText 4 (some .int) [(0, 9, 12, 19)] : Jvm.Cond) ∈ WS := WS_t4 201 rfl rfl
theorem wk_977 : (.methodLink RL 259 yL_cardText : Jvm.Cond) ∈ WS := WS_t4 199 rfl rfl
theorem wk_978 : (.static yL_cardText : Jvm.Cond) ∈ WS := WS_t4 200 rfl rfl
theorem wk_1448 : (.code yX3_cardText cX3_cardText 3 (some (.object "java/lang/String")) : Jvm.Cond) ∈ WS := WS_t6 190 rfl rfl
theorem wk_1445 : (.methodLink RL 261 yX3_cardText : Jvm.Cond) ∈ WS := WS_t6 187 rfl rfl
theorem wk_1446 : (.instanceMethod yX3_cardText : Jvm.Cond) ∈ WS := WS_t6 188 rfl rfl
theorem wk_1447 : (.selects RX3 yX3_cardText yX3_cardText : Jvm.Cond) ∈ WS := WS_t6 189 rfl rfl
theorem wk_987 : (.codeWith yL_isValid cL_isValid 5 (some .int) [(0, 18, 21, 19), (0, 18, 25, 74)] : Jvm.Cond) ∈ WS := WS_t4 209 rfl rfl
theorem wk_985 : (.methodLink RL 262 yL_isValid : Jvm.Cond) ∈ WS := WS_t4 207 rfl rfl
theorem wk_986 : (.static yL_isValid : Jvm.Cond) ∈ WS := WS_t4 208 rfl rfl
theorem wk_1454 : (.code yX3_isValid cX3_isValid 3 (some .boolean) : Jvm.Cond) ∈ WS := WS_t6 196 rfl rfl
theorem wk_1451 : (.methodLink RL 264 yX3_isValid : Jvm.Cond) ∈ WS := WS_t6 193 rfl rfl
theorem wk_1452 : (.instanceMethod yX3_isValid : Jvm.Cond) ∈ WS := WS_t6 194 rfl rfl
theorem wk_1453 : (.selects RX3 yX3_isValid yX3_isValid : Jvm.Cond) ∈ WS := WS_t6 195 rfl rfl
theorem wk_994 : (.codeWith yL_isValidSmall cL_isValidSmall 5 (some .int) [(0, 18, 21, 19), (0, 18, 25, 74)] : Jvm.Cond) ∈ WS := WS_t4 216 rfl rfl
theorem wk_992 : (.methodLink RL 265 yL_isValidSmall : Jvm.Cond) ∈ WS := WS_t4 214 rfl rfl
theorem wk_993 : (.static yL_isValidSmall : Jvm.Cond) ∈ WS := WS_t4 215 rfl rfl
theorem wk_1465 : (.code yX3_isValidSmall cX3_isValidSmall 3 (some .boolean) : Jvm.Cond) ∈ WS := WS_t6 207 rfl rfl
theorem wk_1462 : (.methodLink RL 267 yX3_isValidSmall : Jvm.Cond) ∈ WS := WS_t6 204 rfl rfl
theorem wk_1463 : (.instanceMethod yX3_isValidSmall : Jvm.Cond) ∈ WS := WS_t6 205 rfl rfl
theorem wk_1464 : (.selects RX3 yX3_isValidSmall yX3_isValidSmall : Jvm.Cond) ∈ WS := WS_t6 206 rfl rfl
theorem wk_1001 : (.codeWith yL_whichValid cL_whichValid 5 (some .int) [(0, 11, 14, 19), (0, 11, 18, 74)] : Jvm.Cond) ∈ WS := WS_t4 223 rfl rfl
theorem wk_999 : (.methodLink RL 268 yL_whichValid : Jvm.Cond) ∈ WS := WS_t4 221 rfl rfl
theorem wk_1000 : (.static yL_whichValid : Jvm.Cond) ∈ WS := WS_t4 222 rfl rfl
theorem wk_1469 : (.code yX3_whichValid cX3_whichValid 3 (some .int) : Jvm.Cond) ∈ WS := WS_t6 211 rfl rfl
theorem wk_1466 : (.methodLink RL 270 yX3_whichValid : Jvm.Cond) ∈ WS := WS_t6 208 rfl rfl
theorem wk_1467 : (.instanceMethod yX3_whichValid : Jvm.Cond) ∈ WS := WS_t6 209 rfl rfl
theorem wk_1468 : (.selects RX3 yX3_whichValid yX3_whichValid : Jvm.Cond) ∈ WS := WS_t6 210 rfl rfl
theorem wk_1008 : (.codeWith yL_around cL_around 6 (some .int) [(0, 13, 16, 19), (0, 13, 20, 28), (0, 13, 24, 74)] : Jvm.Cond) ∈ WS := WS_t4 230 rfl rfl
theorem wk_1006 : (.methodLink RL 271 yL_around : Jvm.Cond) ∈ WS := WS_t4 228 rfl rfl
theorem wk_1007 : (.static yL_around : Jvm.Cond) ∈ WS := WS_t4 229 rfl rfl
theorem wk_1476 : (.code yX3_around cX3_around 4 (some .int) : Jvm.Cond) ∈ WS := WS_t6 218 rfl rfl
theorem wk_1473 : (.methodLink RL 273 yX3_around : Jvm.Cond) ∈ WS := WS_t6 215 rfl rfl
theorem wk_1474 : (.instanceMethod yX3_around : Jvm.Cond) ∈ WS := WS_t6 216 rfl rfl
theorem wk_1475 : (.selects RX3 yX3_around yX3_around : Jvm.Cond) ∈ WS := WS_t6 217 rfl rfl
theorem wk_1015 : (.codeWith yL_count cL_count 6 (some .int) [(0, 13, 16, 19), (0, 13, 20, 28), (0, 13, 24, 74)] : Jvm.Cond) ∈ WS := WS_t4 237 rfl rfl
theorem wk_1013 : (.methodLink RL 274 yL_count : Jvm.Cond) ∈ WS := WS_t4 235 rfl rfl
theorem wk_1014 : (.static yL_count : Jvm.Cond) ∈ WS := WS_t4 236 rfl rfl
theorem wk_1483 : (.code yX3_count cX3_count 6 (some .int) : Jvm.Cond) ∈ WS := WS_t6 225 rfl rfl
theorem wk_1480 : (.methodLink RL 276 yX3_count : Jvm.Cond) ∈ WS := WS_t6 222 rfl rfl
theorem wk_1481 : (.instanceMethod yX3_count : Jvm.Cond) ∈ WS := WS_t6 223 rfl rfl
theorem wk_1482 : (.selects RX3 yX3_count yX3_count : Jvm.Cond) ∈ WS := WS_t6 224 rfl rfl
theorem wk_1023 : (.codeWith yL_who cL_who 5 (some .int) [(0, 11, 14, 19), (0, 11, 18, 28)] : Jvm.Cond) ∈ WS := WS_t5 5 rfl rfl
theorem wk_1021 : (.methodLink RL 277 yL_who : Jvm.Cond) ∈ WS := WS_t5 3 rfl rfl
theorem wk_1022 : (.static yL_who : Jvm.Cond) ∈ WS := WS_t5 4 rfl rfl
theorem wk_1487 : (.code yX3_who cX3_who 3 (some .int) : Jvm.Cond) ∈ WS := WS_t6 229 rfl rfl
theorem wk_1484 : (.methodLink RL 279 yX3_who : Jvm.Cond) ∈ WS := WS_t6 226 rfl rfl
theorem wk_1485 : (.instanceMethod yX3_who : Jvm.Cond) ∈ WS := WS_t6 227 rfl rfl
theorem wk_1486 : (.selects RX3 yX3_who yX3_who : Jvm.Cond) ∈ WS := WS_t6 228 rfl rfl
theorem wk_1030 : (.codeWith yL_which cL_which 4 (some .int) [(0, 10, 13, 28)] : Jvm.Cond) ∈ WS := WS_t5 12 rfl rfl
theorem wk_1028 : (.methodLink RL 280 yL_which : Jvm.Cond) ∈ WS := WS_t5 10 rfl rfl
theorem wk_1029 : (.static yL_which : Jvm.Cond) ∈ WS := WS_t5 11 rfl rfl
theorem wk_1495 : (.code yX3_which cX3_which 2 (some .int) : Jvm.Cond) ∈ WS := WS_t6 237 rfl rfl
theorem wk_1492 : (.methodLink RL 282 yX3_which : Jvm.Cond) ∈ WS := WS_t6 234 rfl rfl
theorem wk_1493 : (.instanceMethod yX3_which : Jvm.Cond) ∈ WS := WS_t6 235 rfl rfl
theorem wk_1494 : (.selects RX3 yX3_which yX3_which : Jvm.Cond) ∈ WS := WS_t6 236 rfl rfl
theorem wk_1217 : (.code yX3_thrown cX3_thrown 1 (some .int) : Jvm.Cond) ∈ WS := WS_t5 199 rfl rfl
theorem wk_1214 : (.methodLink RL 283 yX3_thrown : Jvm.Cond) ∈ WS := WS_t5 196 rfl rfl
theorem wk_1215 : (.instanceMethod yX3_thrown : Jvm.Cond) ∈ WS := WS_t5 197 rfl rfl
theorem wk_1216 : (.selects RX3 yX3_thrown yX3_thrown : Jvm.Cond) ∈ WS := WS_t5 198 rfl rfl
theorem wk_1037 : (.codeWith yL_areSame cL_areSame 5 (some .int) [(0, 18, 21, 19), (0, 18, 25, 74)] : Jvm.Cond) ∈ WS := WS_t5 19 rfl rfl
theorem wk_1035 : (.methodLink RL 287 yL_areSame : Jvm.Cond) ∈ WS := WS_t5 17 rfl rfl
theorem wk_1036 : (.static yL_areSame : Jvm.Cond) ∈ WS := WS_t5 18 rfl rfl
theorem wk_1503 : (.code yX3_areSame cX3_areSame 3 (some .boolean) : Jvm.Cond) ∈ WS := WS_t7 5 rfl rfl
theorem wk_1500 : (.methodLink RL 289 yX3_areSame : Jvm.Cond) ∈ WS := WS_t7 2 rfl rfl
theorem wk_1501 : (.instanceMethod yX3_areSame : Jvm.Cond) ∈ WS := WS_t7 3 rfl rfl
theorem wk_1502 : (.selects RX3 yX3_areSame yX3_areSame : Jvm.Cond) ∈ WS := WS_t7 4 rfl rfl
theorem wk_1044 : (.codeWith yL_isSameAs cL_isSameAs 5 (some .int) [(0, 18, 21, 19), (0, 18, 25, 28), (0, 18, 29, 74)] : Jvm.Cond) ∈ WS := WS_t5 26 rfl rfl
theorem wk_1042 : (.methodLink RL 290 yL_isSameAs : Jvm.Cond) ∈ WS := WS_t5 24 rfl rfl
theorem wk_1043 : (.static yL_isSameAs : Jvm.Cond) ∈ WS := WS_t5 25 rfl rfl
theorem wk_1507 : (.code yX3_isSameAs cX3_isSameAs 3 (some .boolean) : Jvm.Cond) ∈ WS := WS_t7 9 rfl rfl
theorem wk_1504 : (.methodLink RL 292 yX3_isSameAs : Jvm.Cond) ∈ WS := WS_t7 6 rfl rfl
theorem wk_1505 : (.instanceMethod yX3_isSameAs : Jvm.Cond) ∈ WS := WS_t7 7 rfl rfl
theorem wk_1506 : (.selects RX3 yX3_isSameAs yX3_isSameAs : Jvm.Cond) ∈ WS := WS_t7 8 rfl rfl
theorem wk_1051 : (.codeWith yL_likes cL_likes 4 (some .int) [(0, 10, 13, 19), (0, 10, 16, 74)] : Jvm.Cond) ∈ WS := WS_t5 33 rfl rfl
theorem wk_1049 : (.methodLink RL 293 yL_likes : Jvm.Cond) ∈ WS := WS_t5 31 rfl rfl
theorem wk_1050 : (.static yL_likes : Jvm.Cond) ∈ WS := WS_t5 32 rfl rfl
theorem wk_1511 : (.code yX3_likes cX3_likes 2 (some .int) : Jvm.Cond) ∈ WS := WS_t7 13 rfl rfl
theorem wk_1508 : (.methodLink RL 295 yX3_likes : Jvm.Cond) ∈ WS := WS_t7 10 rfl rfl
theorem wk_1509 : (.instanceMethod yX3_likes : Jvm.Cond) ∈ WS := WS_t7 11 rfl rfl
theorem wk_1510 : (.selects RX3 yX3_likes yX3_likes : Jvm.Cond) ∈ WS := WS_t7 12 rfl rfl
theorem wk_1058 : (.codeWith yL_lay cL_lay 4 (some .int) [(0, 10, 13, 19), (0, 10, 16, 74)] : Jvm.Cond) ∈ WS := WS_t5 40 rfl rfl
theorem wk_1056 : (.methodLink RL 296 yL_lay : Jvm.Cond) ∈ WS := WS_t5 38 rfl rfl
theorem wk_1057 : (.static yL_lay : Jvm.Cond) ∈ WS := WS_t5 39 rfl rfl
theorem wk_1519 : (.code yX3_lay cX3_lay 2 (some .int) : Jvm.Cond) ∈ WS := WS_t7 21 rfl rfl
theorem wk_1516 : (.methodLink RL 298 yX3_lay : Jvm.Cond) ∈ WS := WS_t7 18 rfl rfl
theorem wk_1517 : (.instanceMethod yX3_lay : Jvm.Cond) ∈ WS := WS_t7 19 rfl rfl
theorem wk_1518 : (.selects RX3 yX3_lay yX3_lay : Jvm.Cond) ∈ WS := WS_t7 20 rfl rfl
theorem wk_1065 : (.codeWith yL_seek cL_seek 5 (some .int) [(0, 11, 14, 19), (0, 11, 18, 74)] : Jvm.Cond) ∈ WS := WS_t5 47 rfl rfl
theorem wk_1063 : (.methodLink RL 299 yL_seek : Jvm.Cond) ∈ WS := WS_t5 45 rfl rfl
theorem wk_1064 : (.static yL_seek : Jvm.Cond) ∈ WS := WS_t5 46 rfl rfl
theorem wk_1527 : (.code yX3_seek cX3_seek 3 (some .int) : Jvm.Cond) ∈ WS := WS_t7 29 rfl rfl
theorem wk_1524 : (.methodLink RL 301 yX3_seek : Jvm.Cond) ∈ WS := WS_t7 26 rfl rfl
theorem wk_1525 : (.instanceMethod yX3_seek : Jvm.Cond) ∈ WS := WS_t7 27 rfl rfl
theorem wk_1526 : (.selects RX3 yX3_seek yX3_seek : Jvm.Cond) ∈ WS := WS_t7 28 rfl rfl
theorem wk_1072 : (.codeWith yL_howOften cL_howOften 4 (some .int) [(0, 10, 13, 19), (0, 10, 16, 74)] : Jvm.Cond) ∈ WS := WS_t5 54 rfl rfl
theorem wk_1070 : (.methodLink RL 302 yL_howOften : Jvm.Cond) ∈ WS := WS_t5 52 rfl rfl
theorem wk_1071 : (.static yL_howOften : Jvm.Cond) ∈ WS := WS_t5 53 rfl rfl
theorem wk_1535 : (.code yX3_howOften cX3_howOften 2 (some .int) : Jvm.Cond) ∈ WS := WS_t7 37 rfl rfl
theorem wk_1532 : (.methodLink RL 304 yX3_howOften : Jvm.Cond) ∈ WS := WS_t7 34 rfl rfl
theorem wk_1533 : (.instanceMethod yX3_howOften : Jvm.Cond) ∈ WS := WS_t7 35 rfl rfl
theorem wk_1534 : (.selects RX3 yX3_howOften yX3_howOften : Jvm.Cond) ∈ WS := WS_t7 36 rfl rfl
theorem wk_1079 : (.codeWith yL_lift cL_lift 4 (some .int) [(0, 10, 13, 19), (0, 10, 16, 74)] : Jvm.Cond) ∈ WS := WS_t5 61 rfl rfl
theorem wk_1077 : (.methodLink RL 305 yL_lift : Jvm.Cond) ∈ WS := WS_t5 59 rfl rfl
theorem wk_1078 : (.static yL_lift : Jvm.Cond) ∈ WS := WS_t5 60 rfl rfl
theorem wk_1589 : (.code yX3_lift cX3_lift 3 (some .int) : Jvm.Cond) ∈ WS := WS_t7 91 rfl rfl
theorem wk_1586 : (.methodLink RL 307 yX3_lift : Jvm.Cond) ∈ WS := WS_t7 88 rfl rfl
theorem wk_1587 : (.instanceMethod yX3_lift : Jvm.Cond) ∈ WS := WS_t7 89 rfl rfl
theorem wk_1588 : (.selects RX3 yX3_lift yX3_lift : Jvm.Cond) ∈ WS := WS_t7 90 rfl rfl
theorem wk_1090 : (.codeWith yL_pick cL_pick 5 (some .int) [(0, 11, 14, 19)] : Jvm.Cond) ∈ WS := WS_t5 72 rfl rfl
theorem wk_1088 : (.methodLink RL 308 yL_pick : Jvm.Cond) ∈ WS := WS_t5 70 rfl rfl
theorem wk_1089 : (.static yL_pick : Jvm.Cond) ∈ WS := WS_t5 71 rfl rfl
theorem wk_1602 : (.code yX3_pick cX3_pick 4 (some .int) : Jvm.Cond) ∈ WS := WS_t7 104 rfl rfl
theorem wk_1599 : (.methodLink RL 310 yX3_pick : Jvm.Cond) ∈ WS := WS_t7 101 rfl rfl
theorem wk_1600 : (.instanceMethod yX3_pick : Jvm.Cond) ∈ WS := WS_t7 102 rfl rfl
theorem wk_1601 : (.selects RX3 yX3_pick yX3_pick : Jvm.Cond) ∈ WS := WS_t7 103 rfl rfl
theorem wk_124 : (.code yX1_turn cX1_turn 4 (some .int) : Jvm.Cond) ∈ WS := WS_t1 66 rfl rfl
theorem wk_121 : (.methodLink RL 311 yX1_turn : Jvm.Cond) ∈ WS := WS_t1 63 rfl rfl
theorem wk_122 : (.instanceMethod yX1_turn : Jvm.Cond) ∈ WS := WS_t1 64 rfl rfl
theorem wk_123 : (.selects RX1 yX1_turn yX1_turn : Jvm.Cond) ∈ WS := WS_t1 65 rfl rfl
theorem wk_1606 : (.code yX3_turn cX3_turn 4 (some .int) : Jvm.Cond) ∈ WS := WS_t7 108 rfl rfl
theorem wk_1603 : (.methodLink RL 314 yX3_turn : Jvm.Cond) ∈ WS := WS_t7 105 rfl rfl
theorem wk_1604 : (.instanceMethod yX3_turn : Jvm.Cond) ∈ WS := WS_t7 106 rfl rfl
theorem wk_1605 : (.selects RX3 yX3_turn yX3_turn : Jvm.Cond) ∈ WS := WS_t7 107 rfl rfl
theorem wk_128 : (.code yX1_sweep cX1_sweep 3 (some .int) : Jvm.Cond) ∈ WS := WS_t1 70 rfl rfl
theorem wk_125 : (.methodLink RL 315 yX1_sweep : Jvm.Cond) ∈ WS := WS_t1 67 rfl rfl
theorem wk_126 : (.instanceMethod yX1_sweep : Jvm.Cond) ∈ WS := WS_t1 68 rfl rfl
theorem wk_127 : (.selects RX1 yX1_sweep yX1_sweep : Jvm.Cond) ∈ WS := WS_t1 69 rfl rfl
theorem wk_1631 : (.code yX3_sweep cX3_sweep 2 (some .int) : Jvm.Cond) ∈ WS := WS_t7 133 rfl rfl
theorem wk_1628 : (.methodLink RL 318 yX3_sweep : Jvm.Cond) ∈ WS := WS_t7 130 rfl rfl
theorem wk_1629 : (.instanceMethod yX3_sweep : Jvm.Cond) ∈ WS := WS_t7 131 rfl rfl
theorem wk_1630 : (.selects RX3 yX3_sweep yX3_sweep : Jvm.Cond) ∈ WS := WS_t7 132 rfl rfl
theorem wk_1102 : (.codeWith yL_pile cL_pile 5 (some .int) [(0, 11, 14, 19), (0, 11, 18, 28)] : Jvm.Cond) ∈ WS := WS_t5 84 rfl rfl
theorem wk_1100 : (.methodLink RL 319 yL_pile : Jvm.Cond) ∈ WS := WS_t5 82 rfl rfl
theorem wk_1101 : (.static yL_pile : Jvm.Cond) ∈ WS := WS_t5 83 rfl rfl
theorem wk_1635 : (.code yX3_pile cX3_pile 3 (some .int) : Jvm.Cond) ∈ WS := WS_t7 137 rfl rfl
theorem wk_1632 : (.methodLink RL 321 yX3_pile : Jvm.Cond) ∈ WS := WS_t7 134 rfl rfl
theorem wk_1633 : (.instanceMethod yX3_pile : Jvm.Cond) ∈ WS := WS_t7 135 rfl rfl
theorem wk_1634 : (.selects RX3 yX3_pile yX3_pile : Jvm.Cond) ∈ WS := WS_t7 136 rfl rfl
theorem wk_1109 : (.codeWith yL_house cL_house 4 (some .int) [(0, 10, 13, 28)] : Jvm.Cond) ∈ WS := WS_t5 91 rfl rfl
theorem wk_1107 : (.methodLink RL 322 yL_house : Jvm.Cond) ∈ WS := WS_t5 89 rfl rfl
theorem wk_1108 : (.static yL_house : Jvm.Cond) ∈ WS := WS_t5 90 rfl rfl
theorem wk_1648 : (.code yX3_house cX3_house 2 (some .int) : Jvm.Cond) ∈ WS := WS_t7 150 rfl rfl
theorem wk_1645 : (.methodLink RL 324 yX3_house : Jvm.Cond) ∈ WS := WS_t7 147 rfl rfl
theorem wk_1646 : (.instanceMethod yX3_house : Jvm.Cond) ∈ WS := WS_t7 148 rfl rfl
theorem wk_1647 : (.selects RX3 yX3_house yX3_house : Jvm.Cond) ∈ WS := WS_t7 149 rfl rfl
theorem wk_132 : (.code yX1_knock cX1_knock 1 (some .int) : Jvm.Cond) ∈ WS := WS_t1 74 rfl rfl
theorem wk_129 : (.methodLink RL 325 yX1_knock : Jvm.Cond) ∈ WS := WS_t1 71 rfl rfl
theorem wk_130 : (.instanceMethod yX1_knock : Jvm.Cond) ∈ WS := WS_t1 72 rfl rfl
theorem wk_131 : (.selects RX1 yX1_knock yX1_knock : Jvm.Cond) ∈ WS := WS_t1 73 rfl rfl
theorem wk_1657 : (.code yX3_knock cX3_knock 1 (some .int) : Jvm.Cond) ∈ WS := WS_t7 159 rfl rfl
theorem wk_1654 : (.methodLink RL 328 yX3_knock : Jvm.Cond) ∈ WS := WS_t7 156 rfl rfl
theorem wk_1655 : (.instanceMethod yX3_knock : Jvm.Cond) ∈ WS := WS_t7 157 rfl rfl
theorem wk_1656 : (.selects RX3 yX3_knock yX3_knock : Jvm.Cond) ∈ WS := WS_t7 158 rfl rfl
theorem wk_133 : (.methodLink RL 329 yX1_isSound : Jvm.Cond) ∈ WS := WS_t1 75 rfl rfl
theorem wk_1661 : (.code yX3_isSound cX3_isSound 1 (some .boolean) : Jvm.Cond) ∈ WS := WS_t7 163 rfl rfl
theorem wk_1658 : (.methodLink RL 333 yX3_isSound : Jvm.Cond) ∈ WS := WS_t7 160 rfl rfl
theorem wk_1659 : (.instanceMethod yX3_isSound : Jvm.Cond) ∈ WS := WS_t7 161 rfl rfl
theorem wk_1660 : (.selects RX3 yX3_isSound yX3_isSound : Jvm.Cond) ∈ WS := WS_t7 162 rfl rfl
theorem wk_247 : (.code yX1_digest cX1_digest 4 (some .long) : Jvm.Cond) ∈ WS := WS_t1 189 rfl rfl
theorem wk_244 : (.methodLink RL 334 yX1_digest : Jvm.Cond) ∈ WS := WS_t1 186 rfl rfl
theorem wk_245 : (.instanceMethod yX1_digest : Jvm.Cond) ∈ WS := WS_t1 187 rfl rfl
theorem wk_246 : (.selects RX1 yX1_digest yX1_digest : Jvm.Cond) ∈ WS := WS_t1 188 rfl rfl
theorem wk_1665 : (.code yX3_digest cX3_digest 6 (some .long) : Jvm.Cond) ∈ WS := WS_t7 167 rfl rfl
theorem wk_1662 : (.methodLink RL 338 yX3_digest : Jvm.Cond) ∈ WS := WS_t7 164 rfl rfl
theorem wk_1663 : (.instanceMethod yX3_digest : Jvm.Cond) ∈ WS := WS_t7 165 rfl rfl
theorem wk_1664 : (.selects RX3 yX3_digest yX3_digest : Jvm.Cond) ∈ WS := WS_t7 166 rfl rfl
theorem kc_183 {l : Launch} (hl : l.stackTraces = false) {G : GT} {own : String} {i : Nat} (hw : Jvm.Cond.methodLink own i yX1_init ∈ WS) : vCal l G own i (4, 1, 5, 1, (fun _ _ => 3), (fun _ _ => 26), yX1_init, spOf (MX1_init (gg G))) := ⟨cX1_init, 1, none, fun y hy => by subst hy; exact ⟨by decide, ⟨_, wk_92, okX1_init hl, Or.inl ⟨Nat.ne_of_beq_eq_false rfl, rfl⟩⟩, wk_59, nc14, ⟨(by decide +kernel : (parseMethodDescriptor yX1_init.desc).map (fun d => d.parameters.length + 1) = some 1), rfl, hw, wk_91, rfl⟩⟩⟩
theorem kc_184 {l : Launch} (hl : l.stackTraces = false) {G : GT} {own : String} {i : Nat} (hw : Jvm.Cond.methodLink own i yX3_init ∈ WS) : vCal l G own i (4, 1, 7, 7, (fun _ _ => 9), (fun _ _ => 104), yX3_init, spOf (MX3_init (gg G))) := ⟨cX3_init, 2, none, fun y hy => by subst hy; exact ⟨by decide, ⟨_, wk_1118, okX3_init hl, Or.inl ⟨Nat.ne_of_beq_eq_false rfl, rfl⟩⟩, wk_60, nc13, ⟨(by decide +kernel : (parseMethodDescriptor yX3_init.desc).map (fun d => d.parameters.length + 1) = some 1), rfl, hw, wk_1117, rfl⟩⟩⟩
theorem nc15 : (RX2 : String) ≠ "java/lang/invoke/MethodHandle" ∧ (RX2 : String) ≠ "java/lang/invoke/VarHandle" := ⟨by decide, by decide⟩
theorem nc16 : (RL : String) ≠ "java/lang/invoke/MethodHandle" ∧ (RL : String) ≠ "java/lang/invoke/VarHandle" := ⟨by decide, by decide⟩
theorem kc_185 {l : Launch} (hl : l.stackTraces = false) {G : GT} {own : String} {i : Nat} (hw : Jvm.Cond.methodLink own i yX3_set ∈ WS) : vCal l G own i (2, 4, 7, 3, (fun _ _ => 0), (fun _ _ => 0), yX3_set, spOf (MX3_set (gg G))) := ⟨cX3_set, 5, some .int, fun y hy => by subst hy; exact ⟨by decide, ⟨_, wk_1221, okX3_set hl, Or.inl ⟨Nat.ne_of_beq_eq_false rfl, rfl⟩⟩, wk_60, nc13, ⟨(by decide +kernel : (parseMethodDescriptor yX3_set.desc).map (fun d => d.parameters.length + 1) = some 4), hw, wk_1219, wk_1220, (RX3, TX3, 7), rfl, rfl⟩⟩⟩
theorem kc_186 {l : Launch} (hl : l.stackTraces = false) {G : GT} {own : String} {i : Nat} (hw : Jvm.Cond.methodLink own i yX3_setSmall ∈ WS) : vCal l G own i (2, 3, 7, 3, (fun _ _ => 0), (fun _ _ => 0), yX3_setSmall, spOf (MX3_setSmall (gg G))) := ⟨cX3_setSmall, 4, some .int, fun y hy => by subst hy; exact ⟨by decide, ⟨_, wk_1243, okX3_setSmall hl, Or.inl ⟨Nat.ne_of_beq_eq_false rfl, rfl⟩⟩, wk_60, nc13, ⟨(by decide +kernel : (parseMethodDescriptor yX3_setSmall.desc).map (fun d => d.parameters.length + 1) = some 3), hw, wk_1241, wk_1242, (RX3, TX3, 7), rfl, rfl⟩⟩⟩
theorem kc_187 {l : Launch} (hl : l.stackTraces = false) {G : GT} {own : String} {i : Nat} (hw : Jvm.Cond.methodLink own i yX3_setEnd ∈ WS) : vCal l G own i (2, 3, 7, 3, (fun _ _ => 1), (fun _ _ => 4), yX3_setEnd, spOf (MX3_setEnd (gg G))) := ⟨cX3_setEnd, 4, some .int, fun y hy => by subst hy; exact ⟨by decide, ⟨_, wk_1251, okX3_setEnd hl, Or.inl ⟨Nat.ne_of_beq_eq_false rfl, rfl⟩⟩, wk_60, nc13, ⟨(by decide +kernel : (parseMethodDescriptor yX3_setEnd.desc).map (fun d => d.parameters.length + 1) = some 3), hw, wk_1249, wk_1250, (RX3, TX3, 7), rfl, rfl⟩⟩⟩
theorem kc_188 {l : Launch} (hl : l.stackTraces = false) {G : GT} {own : String} {i : Nat} (hw : Jvm.Cond.methodLink own i yX3_move ∈ WS) : vCal l G own i (2, 3, 7, 3, (fun _ _ => 0), (fun _ _ => 0), yX3_move, spOf (MX3_move (gg G))) := ⟨cX3_move, 3, some .int, fun y hy => by subst hy; exact ⟨by decide, ⟨_, wk_1262, okX3_move hl, Or.inl ⟨Nat.ne_of_beq_eq_false rfl, rfl⟩⟩, wk_60, nc13, ⟨(by decide +kernel : (parseMethodDescriptor yX3_move.desc).map (fun d => d.parameters.length + 1) = some 3), hw, wk_1260, wk_1261, (RX3, TX3, 7), rfl, rfl⟩⟩⟩
theorem kc_189 {l : Launch} (hl : l.stackTraces = false) {G : GT} {own : String} {i : Nat} (hw : Jvm.Cond.methodLink own i yX3_copy ∈ WS) : vCal l G own i (2, 3, 7, 3, (fun _ _ => 0), (fun _ _ => 0), yX3_copy, spOf (MX3_copy (gg G))) := ⟨cX3_copy, 3, some .int, fun y hy => by subst hy; exact ⟨by decide, ⟨_, wk_1266, okX3_copy hl, Or.inl ⟨Nat.ne_of_beq_eq_false rfl, rfl⟩⟩, wk_60, nc13, ⟨(by decide +kernel : (parseMethodDescriptor yX3_copy.desc).map (fun d => d.parameters.length + 1) = some 3), hw, wk_1264, wk_1265, (RX3, TX3, 7), rfl, rfl⟩⟩⟩
theorem kc_190 {l : Launch} (hl : l.stackTraces = false) {G : GT} {own : String} {i : Nat} (hw : Jvm.Cond.methodLink own i yX3_ofNumber ∈ WS) : vCal l G own i (2, 3, 7, 3, (fun _ _ => 0), (fun _ _ => 0), yX3_ofNumber, spOf (MX3_ofNumber (gg G))) := ⟨cX3_ofNumber, 3, some .int, fun y hy => by subst hy; exact ⟨by decide, ⟨_, wk_1270, okX3_ofNumber hl, Or.inl ⟨Nat.ne_of_beq_eq_false rfl, rfl⟩⟩, wk_60, nc13, ⟨(by decide +kernel : (parseMethodDescriptor yX3_ofNumber.desc).map (fun d => d.parameters.length + 1) = some 3), hw, wk_1268, wk_1269, (RX3, TX3, 7), rfl, rfl⟩⟩⟩
theorem kc_191 {l : Launch} (hl : l.stackTraces = false) {G : GT} {own : String} {i : Nat} (hw : Jvm.Cond.methodLink own i yX3_numberText ∈ WS) : vCal l G own i (2, 2, 7, 7, (fun _ _ => 6), (fun _ _ => 454), yX3_numberText, spOf (MX3_numberText (gg G))) := ⟨cX3_numberText, 2, some (.object "java/lang/String"), fun y hy => by subst hy; exact ⟨by decide, ⟨_, wk_1274, okX3_numberText hl, Or.inl ⟨Nat.ne_of_beq_eq_false rfl, rfl⟩⟩, wk_60, nc13, ⟨(by decide +kernel : (parseMethodDescriptor yX3_numberText.desc).map (fun d => d.parameters.length + 1) = some 2), hw, wk_1272, wk_1273, (RX3, TX3, 7), rfl, rfl⟩⟩⟩
theorem kc_192 {l : Launch} (hl : l.stackTraces = false) {G : GT} {own : String} {i : Nat} (hw : Jvm.Cond.methodLink own i yX3_order ∈ WS) : vCal l G own i (2, 3, 7, 3, (fun _ _ => 0), (fun _ _ => 0), yX3_order, spOf (MX3_order (gg G))) := ⟨cX3_order, 3, some .int, fun y hy => by subst hy; exact ⟨by decide, ⟨_, wk_1310, okX3_order hl, Or.inl ⟨Nat.ne_of_beq_eq_false rfl, rfl⟩⟩, wk_60, nc13, ⟨(by decide +kernel : (parseMethodDescriptor yX3_order.desc).map (fun d => d.parameters.length + 1) = some 3), hw, wk_1308, wk_1309, (RX3, TX3, 7), rfl, rfl⟩⟩⟩
theorem kc_193 {l : Launch} (hl : l.stackTraces = false) {G : GT} {own : String} {i : Nat} (hw : Jvm.Cond.methodLink own i yX3_two ∈ WS) : vCal l G own i (2, 4, 7, 5, (fun _ _ => 1), (fun _ _ => 4), yX3_two, spOf (MX3_two (gg G))) := ⟨cX3_two, 4, some .int, fun y hy => by subst hy; exact ⟨by decide, ⟨_, wk_1317, okX3_two hl, Or.inl ⟨Nat.ne_of_beq_eq_false rfl, rfl⟩⟩, wk_60, nc13, ⟨(by decide +kernel : (parseMethodDescriptor yX3_two.desc).map (fun d => d.parameters.length + 1) = some 4), hw, wk_1315, wk_1316, (RX3, TX3, 7), rfl, rfl⟩⟩⟩
theorem kc_194 {l : Launch} (hl : l.stackTraces = false) {G : GT} {own : String} {i : Nat} (hw : Jvm.Cond.methodLink own i yX3_three ∈ WS) : vCal l G own i (2, 5, 7, 5, (fun _ _ => 1), (fun _ _ => 4), yX3_three, spOf (MX3_three (gg G))) := ⟨cX3_three, 5, some .int, fun y hy => by subst hy; exact ⟨by decide, ⟨_, wk_1347, okX3_three hl, Or.inl ⟨Nat.ne_of_beq_eq_false rfl, rfl⟩⟩, wk_60, nc13, ⟨(by decide +kernel : (parseMethodDescriptor yX3_three.desc).map (fun d => d.parameters.length + 1) = some 5), hw, wk_1345, wk_1346, (RX3, TX3, 7), rfl, rfl⟩⟩⟩
theorem kc_195 {l : Launch} (hl : l.stackTraces = false) {G : GT} {own : String} {i : Nat} (hw : Jvm.Cond.methodLink own i yX3_four ∈ WS) : vCal l G own i (2, 6, 7, 5, (fun _ _ => 1), (fun _ _ => 4), yX3_four, spOf (MX3_four (gg G))) := ⟨cX3_four, 6, some .int, fun y hy => by subst hy; exact ⟨by decide, ⟨_, wk_1351, okX3_four hl, Or.inl ⟨Nat.ne_of_beq_eq_false rfl, rfl⟩⟩, wk_60, nc13, ⟨(by decide +kernel : (parseMethodDescriptor yX3_four.desc).map (fun d => d.parameters.length + 1) = some 6), hw, wk_1349, wk_1350, (RX3, TX3, 7), rfl, rfl⟩⟩⟩
theorem kc_196 {l : Launch} (hl : l.stackTraces = false) {G : GT} {own : String} {i : Nat} (hw : Jvm.Cond.methodLink own i yX3_twoSmall ∈ WS) : vCal l G own i (2, 4, 7, 5, (fun _ _ => 1), (fun _ _ => 4), yX3_twoSmall, spOf (MX3_twoSmall (gg G))) := ⟨cX3_twoSmall, 4, some .int, fun y hy => by subst hy; exact ⟨by decide, ⟨_, wk_1355, okX3_twoSmall hl, Or.inl ⟨Nat.ne_of_beq_eq_false rfl, rfl⟩⟩, wk_60, nc13, ⟨(by decide +kernel : (parseMethodDescriptor yX3_twoSmall.desc).map (fun d => d.parameters.length + 1) = some 4), hw, wk_1353, wk_1354, (RX3, TX3, 7), rfl, rfl⟩⟩⟩
theorem kc_197 {l : Launch} (hl : l.stackTraces = false) {G : GT} {own : String} {i : Nat} (hw : Jvm.Cond.methodLink own i yX3_threeSmall ∈ WS) : vCal l G own i (2, 5, 7, 5, (fun _ _ => 1), (fun _ _ => 4), yX3_threeSmall, spOf (MX3_threeSmall (gg G))) := ⟨cX3_threeSmall, 5, some .int, fun y hy => by subst hy; exact ⟨by decide, ⟨_, wk_1359, okX3_threeSmall hl, Or.inl ⟨Nat.ne_of_beq_eq_false rfl, rfl⟩⟩, wk_60, nc13, ⟨(by decide +kernel : (parseMethodDescriptor yX3_threeSmall.desc).map (fun d => d.parameters.length + 1) = some 5), hw, wk_1357, wk_1358, (RX3, TX3, 7), rfl, rfl⟩⟩⟩
theorem kc_198 {l : Launch} (hl : l.stackTraces = false) {G : GT} {own : String} {i : Nat} (hw : Jvm.Cond.methodLink own i yX3_fourSmall ∈ WS) : vCal l G own i (2, 6, 7, 5, (fun _ _ => 1), (fun _ _ => 4), yX3_fourSmall, spOf (MX3_fourSmall (gg G))) := ⟨cX3_fourSmall, 6, some .int, fun y hy => by subst hy; exact ⟨by decide, ⟨_, wk_1363, okX3_fourSmall hl, Or.inl ⟨Nat.ne_of_beq_eq_false rfl, rfl⟩⟩, wk_60, nc13, ⟨(by decide +kernel : (parseMethodDescriptor yX3_fourSmall.desc).map (fun d => d.parameters.length + 1) = some 6), hw, wk_1361, wk_1362, (RX3, TX3, 7), rfl, rfl⟩⟩⟩
theorem kc_199 {l : Launch} (hl : l.stackTraces = false) {G : GT} {own : String} {i : Nat} (hw : Jvm.Cond.methodLink own i yX3_again ∈ WS) : vCal l G own i (2, 3, 7, 6, (fun _ _ => 1), (fun _ _ => 4), yX3_again, spOf (MX3_again (gg G))) := ⟨cX3_again, 10, some .int, fun y hy => by subst hy; exact ⟨by decide, ⟨_, wk_1367, okX3_again hl, Or.inl ⟨Nat.ne_of_beq_eq_false rfl, rfl⟩⟩, wk_60, nc13, ⟨(by decide +kernel : (parseMethodDescriptor yX3_again.desc).map (fun d => d.parameters.length + 1) = some 3), hw, wk_1365, wk_1366, (RX3, TX3, 7), rfl, rfl⟩⟩⟩
theorem kc_200 {l : Launch} (hl : l.stackTraces = false) {G : GT} {own : String} {i : Nat} (hw : Jvm.Cond.methodLink own i yX3_same_ ∈ WS) : vCal l G own i (2, 3, 7, 6, (fun _ _ => 0), (fun _ _ => 0), yX3_same_, spOf (MX3_same_ (gg G))) := ⟨cX3_same_, 4, some .int, fun y hy => by subst hy; exact ⟨by decide, ⟨_, wk_1384, okX3_same_ hl, Or.inl ⟨Nat.ne_of_beq_eq_false rfl, rfl⟩⟩, wk_60, nc13, ⟨(by decide +kernel : (parseMethodDescriptor yX3_same_.desc).map (fun d => d.parameters.length + 1) = some 3), hw, wk_1382, wk_1383, (RX3, TX3, 7), rfl, rfl⟩⟩⟩
theorem kc_201 {l : Launch} (hl : l.stackTraces = false) {G : GT} {own : String} {i : Nat} (hw : Jvm.Cond.methodLink own i yX3_outer ∈ WS) : vCal l G own i (2, 3, 7, 6, (fun _ _ => 1), (fun _ _ => 4), yX3_outer, spOf (MX3_outer (gg G))) := ⟨cX3_outer, 4, some .int, fun y hy => by subst hy; exact ⟨by decide, ⟨_, wk_1391, okX3_outer hl, Or.inl ⟨Nat.ne_of_beq_eq_false rfl, rfl⟩⟩, wk_60, nc13, ⟨(by decide +kernel : (parseMethodDescriptor yX3_outer.desc).map (fun d => d.parameters.length + 1) = some 3), hw, wk_1389, wk_1390, (RX3, TX3, 7), rfl, rfl⟩⟩⟩
theorem kc_202 {l : Launch} (hl : l.stackTraces = false) {G : GT} {own : String} {i : Nat} (hw : Jvm.Cond.methodLink own i yX3_inner ∈ WS) : vCal l G own i (2, 3, 7, 6, (fun _ _ => 1), (fun _ _ => 4), yX3_inner, spOf (MX3_inner (gg G))) := ⟨cX3_inner, 4, some .int, fun y hy => by subst hy; exact ⟨by decide, ⟨_, wk_1398, okX3_inner hl, Or.inl ⟨Nat.ne_of_beq_eq_false rfl, rfl⟩⟩, wk_60, nc13, ⟨(by decide +kernel : (parseMethodDescriptor yX3_inner.desc).map (fun d => d.parameters.length + 1) = some 3), hw, wk_1396, wk_1397, (RX3, TX3, 7), rfl, rfl⟩⟩⟩
theorem kc_203 {l : Launch} (hl : l.stackTraces = false) {G : GT} {own : String} {i : Nat} (hw : Jvm.Cond.methodLink own i yX3_span ∈ WS) : vCal l G own i (2, 4, 7, 5, (fun _ _ => 1), (fun _ _ => 4), yX3_span, spOf (MX3_span (gg G))) := ⟨cX3_span, 4, some .int, fun y hy => by subst hy; exact ⟨by decide, ⟨_, wk_1402, okX3_span hl, Or.inl ⟨Nat.ne_of_beq_eq_false rfl, rfl⟩⟩, wk_60, nc13, ⟨(by decide +kernel : (parseMethodDescriptor yX3_span.desc).map (fun d => d.parameters.length + 1) = some 4), hw, wk_1400, wk_1401, (RX3, TX3, 7), rfl, rfl⟩⟩⟩
theorem kc_204 {l : Launch} (hl : l.stackTraces = false) {G : GT} {own : String} {i : Nat} (hw : Jvm.Cond.methodLink own i yX3_shift ∈ WS) : vCal l G own i (2, 3, 7, 6, (fun _ _ => 1), (fun _ _ => 4), yX3_shift, spOf (MX3_shift (gg G))) := ⟨cX3_shift, 4, some .int, fun y hy => by subst hy; exact ⟨by decide, ⟨_, wk_1406, okX3_shift hl, Or.inl ⟨Nat.ne_of_beq_eq_false rfl, rfl⟩⟩, wk_60, nc13, ⟨(by decide +kernel : (parseMethodDescriptor yX3_shift.desc).map (fun d => d.parameters.length + 1) = some 3), hw, wk_1404, wk_1405, (RX3, TX3, 7), rfl, rfl⟩⟩⟩
theorem kc_205 {l : Launch} (hl : l.stackTraces = false) {G : GT} {own : String} {i : Nat} (hw : Jvm.Cond.methodLink own i yX3_drop ∈ WS) : vCal l G own i (2, 2, 7, 5, (fun _ _ => 0), (fun _ _ => 0), yX3_drop, spOf (MX3_drop (gg G))) := ⟨cX3_drop, 3, some .int, fun y hy => by subst hy; exact ⟨by decide, ⟨_, wk_1414, okX3_drop hl, Or.inl ⟨Nat.ne_of_beq_eq_false rfl, rfl⟩⟩, wk_60, nc13, ⟨(by decide +kernel : (parseMethodDescriptor yX3_drop.desc).map (fun d => d.parameters.length + 1) = some 2), hw, wk_1412, wk_1413, (RX3, TX3, 7), rfl, rfl⟩⟩⟩
theorem kc_206 {l : Launch} (hl : l.stackTraces = false) {G : GT} {own : String} {i : Nat} (hw : Jvm.Cond.methodLink own i yX3_isThere ∈ WS) : vCal l G own i (2, 2, 7, 5, (fun _ _ => 0), (fun _ _ => 0), yX3_isThere, spOf (MX3_isThere (gg G))) := ⟨cX3_isThere, 2, some .boolean, fun y hy => by subst hy; exact ⟨by decide, ⟨_, wk_1418, okX3_isThere hl, Or.inl ⟨Nat.ne_of_beq_eq_false rfl, rfl⟩⟩, wk_60, nc13, ⟨(by decide +kernel : (parseMethodDescriptor yX3_isThere.desc).map (fun d => d.parameters.length + 1) = some 2), hw, wk_1416, wk_1417, (RX3, TX3, 7), rfl, rfl⟩⟩⟩
theorem kc_207 {l : Launch} (hl : l.stackTraces = false) {G : GT} {own : String} {i : Nat} (hw : Jvm.Cond.methodLink own i yX3_isFixed ∈ WS) : vCal l G own i (2, 2, 7, 6, (fun _ _ => 0), (fun _ _ => 0), yX3_isFixed, spOf (MX3_isFixed (gg G))) := ⟨cX3_isFixed, 2, some .boolean, fun y hy => by subst hy; exact ⟨by decide, ⟨_, wk_1422, okX3_isFixed hl, Or.inl ⟨Nat.ne_of_beq_eq_false rfl, rfl⟩⟩, wk_60, nc13, ⟨(by decide +kernel : (parseMethodDescriptor yX3_isFixed.desc).map (fun d => d.parameters.length + 1) = some 2), hw, wk_1420, wk_1421, (RX3, TX3, 7), rfl, rfl⟩⟩⟩
theorem kc_208 {l : Launch} (hl : l.stackTraces = false) {G : GT} {own : String} {i : Nat} (hw : Jvm.Cond.methodLink own i yX3_isSmall ∈ WS) : vCal l G own i (2, 2, 7, 6, (fun _ _ => 0), (fun _ _ => 0), yX3_isSmall, spOf (MX3_isSmall (gg G))) := ⟨cX3_isSmall, 2, some .boolean, fun y hy => by subst hy; exact ⟨by decide, ⟨_, wk_1426, okX3_isSmall hl, Or.inl ⟨Nat.ne_of_beq_eq_false rfl, rfl⟩⟩, wk_60, nc13, ⟨(by decide +kernel : (parseMethodDescriptor yX3_isSmall.desc).map (fun d => d.parameters.length + 1) = some 2), hw, wk_1424, wk_1425, (RX3, TX3, 7), rfl, rfl⟩⟩⟩
theorem kc_209 {l : Launch} (hl : l.stackTraces = false) {G : GT} {own : String} {i : Nat} (hw : Jvm.Cond.methodLink own i yX3_end ∈ WS) : vCal l G own i (2, 4, 7, 6, (fun _ _ => 0), (fun _ _ => 0), yX3_end, spOf (MX3_end (gg G))) := ⟨cX3_end, 4, some .int, fun y hy => by subst hy; exact ⟨by decide, ⟨_, wk_1433, okX3_end hl, Or.inl ⟨Nat.ne_of_beq_eq_false rfl, rfl⟩⟩, wk_60, nc13, ⟨(by decide +kernel : (parseMethodDescriptor yX3_end.desc).map (fun d => d.parameters.length + 1) = some 4), hw, wk_1431, wk_1432, (RX3, TX3, 7), rfl, rfl⟩⟩⟩
theorem kc_210 {l : Launch} (hl : l.stackTraces = false) {G : GT} {own : String} {i : Nat} (hw : Jvm.Cond.methodLink own i yX3_take ∈ WS) : vCal l G own i (2, 4, 7, 5, (fun _ _ => 0), (fun _ _ => 0), yX3_take, spOf (MX3_take (gg G))) := ⟨cX3_take, 4, some .int, fun y hy => by subst hy; exact ⟨by decide, ⟨_, wk_1444, okX3_take hl, Or.inl ⟨Nat.ne_of_beq_eq_false rfl, rfl⟩⟩, wk_60, nc13, ⟨(by decide +kernel : (parseMethodDescriptor yX3_take.desc).map (fun d => d.parameters.length + 1) = some 4), hw, wk_1442, wk_1443, (RX3, TX3, 7), rfl, rfl⟩⟩⟩
theorem kc_211 {l : Launch} (hl : l.stackTraces = false) {G : GT} {own : String} {i : Nat} (hw : Jvm.Cond.methodLink own i yX3_cardText ∈ WS) : vCal l G own i (2, 2, 7, 7, (fun _ _ => 11), (fun _ _ => 1304), yX3_cardText, spOf (MX3_cardText (gg G))) := ⟨cX3_cardText, 3, some (.object "java/lang/String"), fun y hy => by subst hy; exact ⟨by decide, ⟨_, wk_1448, okX3_cardText hl, Or.inl ⟨Nat.ne_of_beq_eq_false rfl, rfl⟩⟩, wk_60, nc13, ⟨(by decide +kernel : (parseMethodDescriptor yX3_cardText.desc).map (fun d => d.parameters.length + 1) = some 2), hw, wk_1446, wk_1447, (RX3, TX3, 7), rfl, rfl⟩⟩⟩
theorem kc_212 {l : Launch} (hl : l.stackTraces = false) {G : GT} {own : String} {i : Nat} (hw : Jvm.Cond.methodLink own i yX3_isValid ∈ WS) : vCal l G own i (2, 3, 7, 6, (fun _ _ => 0), (fun _ _ => 0), yX3_isValid, spOf (MX3_isValid (gg G))) := ⟨cX3_isValid, 3, some .boolean, fun y hy => by subst hy; exact ⟨by decide, ⟨_, wk_1454, okX3_isValid hl, Or.inl ⟨Nat.ne_of_beq_eq_false rfl, rfl⟩⟩, wk_60, nc13, ⟨(by decide +kernel : (parseMethodDescriptor yX3_isValid.desc).map (fun d => d.parameters.length + 1) = some 3), hw, wk_1452, wk_1453, (RX3, TX3, 7), rfl, rfl⟩⟩⟩
theorem kc_213 {l : Launch} (hl : l.stackTraces = false) {G : GT} {own : String} {i : Nat} (hw : Jvm.Cond.methodLink own i yX3_isValidSmall ∈ WS) : vCal l G own i (2, 3, 7, 6, (fun _ _ => 0), (fun _ _ => 0), yX3_isValidSmall, spOf (MX3_isValidSmall (gg G))) := ⟨cX3_isValidSmall, 3, some .boolean, fun y hy => by subst hy; exact ⟨by decide, ⟨_, wk_1465, okX3_isValidSmall hl, Or.inl ⟨Nat.ne_of_beq_eq_false rfl, rfl⟩⟩, wk_60, nc13, ⟨(by decide +kernel : (parseMethodDescriptor yX3_isValidSmall.desc).map (fun d => d.parameters.length + 1) = some 3), hw, wk_1463, wk_1464, (RX3, TX3, 7), rfl, rfl⟩⟩⟩
theorem kc_214 {l : Launch} (hl : l.stackTraces = false) {G : GT} {own : String} {i : Nat} (hw : Jvm.Cond.methodLink own i yX3_whichValid ∈ WS) : vCal l G own i (2, 3, 7, 6, (fun _ _ => 0), (fun _ _ => 0), yX3_whichValid, spOf (MX3_whichValid (gg G))) := ⟨cX3_whichValid, 3, some .int, fun y hy => by subst hy; exact ⟨by decide, ⟨_, wk_1469, okX3_whichValid hl, Or.inl ⟨Nat.ne_of_beq_eq_false rfl, rfl⟩⟩, wk_60, nc13, ⟨(by decide +kernel : (parseMethodDescriptor yX3_whichValid.desc).map (fun d => d.parameters.length + 1) = some 3), hw, wk_1467, wk_1468, (RX3, TX3, 7), rfl, rfl⟩⟩⟩
theorem kc_215 {l : Launch} (hl : l.stackTraces = false) {G : GT} {own : String} {i : Nat} (hw : Jvm.Cond.methodLink own i yX3_around ∈ WS) : vCal l G own i (2, 4, 7, 6, (fun _ _ => 0), (fun _ _ => 0), yX3_around, spOf (MX3_around (gg G))) := ⟨cX3_around, 4, some .int, fun y hy => by subst hy; exact ⟨by decide, ⟨_, wk_1476, okX3_around hl, Or.inl ⟨Nat.ne_of_beq_eq_false rfl, rfl⟩⟩, wk_60, nc13, ⟨(by decide +kernel : (parseMethodDescriptor yX3_around.desc).map (fun d => d.parameters.length + 1) = some 4), hw, wk_1474, wk_1475, (RX3, TX3, 7), rfl, rfl⟩⟩⟩
theorem kc_216 {l : Launch} (hl : l.stackTraces = false) {G : GT} {own : String} {i : Nat} (hw : Jvm.Cond.methodLink own i yX3_count ∈ WS) : vCal l G own i (2, 4, 7, 5, (fun _ _ => 0), (fun _ _ => 0), yX3_count, spOf (MX3_count (gg G))) := ⟨cX3_count, 6, some .int, fun y hy => by subst hy; exact ⟨by decide, ⟨_, wk_1483, okX3_count hl, Or.inl ⟨Nat.ne_of_beq_eq_false rfl, rfl⟩⟩, wk_60, nc13, ⟨(by decide +kernel : (parseMethodDescriptor yX3_count.desc).map (fun d => d.parameters.length + 1) = some 4), hw, wk_1481, wk_1482, (RX3, TX3, 7), rfl, rfl⟩⟩⟩
theorem kc_217 {l : Launch} (hl : l.stackTraces = false) {G : GT} {own : String} {i : Nat} (hw : Jvm.Cond.methodLink own i yX3_who ∈ WS) : vCal l G own i (2, 3, 7, 6, (fun _ _ => 0), (fun _ _ => 0), yX3_who, spOf (MX3_who (gg G))) := ⟨cX3_who, 3, some .int, fun y hy => by subst hy; exact ⟨by decide, ⟨_, wk_1487, okX3_who hl, Or.inl ⟨Nat.ne_of_beq_eq_false rfl, rfl⟩⟩, wk_60, nc13, ⟨(by decide +kernel : (parseMethodDescriptor yX3_who.desc).map (fun d => d.parameters.length + 1) = some 3), hw, wk_1485, wk_1486, (RX3, TX3, 7), rfl, rfl⟩⟩⟩
theorem kc_218 {l : Launch} (hl : l.stackTraces = false) {G : GT} {own : String} {i : Nat} (hw : Jvm.Cond.methodLink own i yX3_which ∈ WS) : vCal l G own i (2, 2, 7, 6, (fun _ _ => 0), (fun _ _ => 0), yX3_which, spOf (MX3_which (gg G))) := ⟨cX3_which, 2, some .int, fun y hy => by subst hy; exact ⟨by decide, ⟨_, wk_1495, okX3_which hl, Or.inl ⟨Nat.ne_of_beq_eq_false rfl, rfl⟩⟩, wk_60, nc13, ⟨(by decide +kernel : (parseMethodDescriptor yX3_which.desc).map (fun d => d.parameters.length + 1) = some 2), hw, wk_1493, wk_1494, (RX3, TX3, 7), rfl, rfl⟩⟩⟩
theorem kc_219 {l : Launch} (hl : l.stackTraces = false) {G : GT} {own : String} {i : Nat} (hw : Jvm.Cond.methodLink own i yX3_thrown ∈ WS) : vCal l G own i (2, 1, 7, 1, (fun _ _ => 0), (fun _ _ => 0), yX3_thrown, spOf (MX3_thrown (gg G))) := ⟨cX3_thrown, 1, some .int, fun y hy => by subst hy; exact ⟨by decide, ⟨_, wk_1217, okX3_thrown hl, Or.inl ⟨Nat.ne_of_beq_eq_false rfl, rfl⟩⟩, wk_60, nc13, ⟨(by decide +kernel : (parseMethodDescriptor yX3_thrown.desc).map (fun d => d.parameters.length + 1) = some 1), hw, wk_1215, wk_1216, (RX3, TX3, 7), rfl, rfl⟩⟩⟩
theorem kc_220 {l : Launch} (hl : l.stackTraces = false) {G : GT} {own : String} {i : Nat} (hw : Jvm.Cond.methodLink own i yX3_areSame ∈ WS) : vCal l G own i (2, 3, 7, 5, (fun _ _ => 0), (fun _ _ => 0), yX3_areSame, spOf (MX3_areSame (gg G))) := ⟨cX3_areSame, 3, some .boolean, fun y hy => by subst hy; exact ⟨by decide, ⟨_, wk_1503, okX3_areSame hl, Or.inl ⟨Nat.ne_of_beq_eq_false rfl, rfl⟩⟩, wk_60, nc13, ⟨(by decide +kernel : (parseMethodDescriptor yX3_areSame.desc).map (fun d => d.parameters.length + 1) = some 3), hw, wk_1501, wk_1502, (RX3, TX3, 7), rfl, rfl⟩⟩⟩
theorem kc_221 {l : Launch} (hl : l.stackTraces = false) {G : GT} {own : String} {i : Nat} (hw : Jvm.Cond.methodLink own i yX3_isSameAs ∈ WS) : vCal l G own i (2, 3, 7, 5, (fun _ _ => 0), (fun _ _ => 0), yX3_isSameAs, spOf (MX3_isSameAs (gg G))) := ⟨cX3_isSameAs, 3, some .boolean, fun y hy => by subst hy; exact ⟨by decide, ⟨_, wk_1507, okX3_isSameAs hl, Or.inl ⟨Nat.ne_of_beq_eq_false rfl, rfl⟩⟩, wk_60, nc13, ⟨(by decide +kernel : (parseMethodDescriptor yX3_isSameAs.desc).map (fun d => d.parameters.length + 1) = some 3), hw, wk_1505, wk_1506, (RX3, TX3, 7), rfl, rfl⟩⟩⟩
theorem kc_222 {l : Launch} (hl : l.stackTraces = false) {G : GT} {own : String} {i : Nat} (hw : Jvm.Cond.methodLink own i yX3_likes ∈ WS) : vCal l G own i (2, 2, 7, 6, (fun _ _ => 0), (fun _ _ => 0), yX3_likes, spOf (MX3_likes (gg G))) := ⟨cX3_likes, 2, some .int, fun y hy => by subst hy; exact ⟨by decide, ⟨_, wk_1511, okX3_likes hl, Or.inl ⟨Nat.ne_of_beq_eq_false rfl, rfl⟩⟩, wk_60, nc13, ⟨(by decide +kernel : (parseMethodDescriptor yX3_likes.desc).map (fun d => d.parameters.length + 1) = some 2), hw, wk_1509, wk_1510, (RX3, TX3, 7), rfl, rfl⟩⟩⟩
theorem kc_223 {l : Launch} (hl : l.stackTraces = false) {G : GT} {own : String} {i : Nat} (hw : Jvm.Cond.methodLink own i yX3_lay ∈ WS) : vCal l G own i (2, 2, 7, 7, (fun _ _ => 1), (fun _ _ => 15), yX3_lay, spOf (MX3_lay (gg G))) := ⟨cX3_lay, 2, some .int, fun y hy => by subst hy; exact ⟨by decide, ⟨_, wk_1519, okX3_lay hl, Or.inl ⟨Nat.ne_of_beq_eq_false rfl, rfl⟩⟩, wk_60, nc13, ⟨(by decide +kernel : (parseMethodDescriptor yX3_lay.desc).map (fun d => d.parameters.length + 1) = some 2), hw, wk_1517, wk_1518, (RX3, TX3, 7), rfl, rfl⟩⟩⟩
theorem kc_224 {l : Launch} (hl : l.stackTraces = false) {G : GT} {own : String} {i : Nat} (hw : Jvm.Cond.methodLink own i yX3_seek ∈ WS) : vCal l G own i (2, 3, 7, 6, (fun _ _ => 0), (fun _ _ => 0), yX3_seek, spOf (MX3_seek (gg G))) := ⟨cX3_seek, 3, some .int, fun y hy => by subst hy; exact ⟨by decide, ⟨_, wk_1527, okX3_seek hl, Or.inl ⟨Nat.ne_of_beq_eq_false rfl, rfl⟩⟩, wk_60, nc13, ⟨(by decide +kernel : (parseMethodDescriptor yX3_seek.desc).map (fun d => d.parameters.length + 1) = some 3), hw, wk_1525, wk_1526, (RX3, TX3, 7), rfl, rfl⟩⟩⟩
theorem kc_225 {l : Launch} (hl : l.stackTraces = false) {G : GT} {own : String} {i : Nat} (hw : Jvm.Cond.methodLink own i yX3_howOften ∈ WS) : vCal l G own i (2, 2, 7, 6, (fun _ _ => 1), (fun _ _ => 4), yX3_howOften, spOf (MX3_howOften (gg G))) := ⟨cX3_howOften, 2, some .int, fun y hy => by subst hy; exact ⟨by decide, ⟨_, wk_1535, okX3_howOften hl, Or.inl ⟨Nat.ne_of_beq_eq_false rfl, rfl⟩⟩, wk_60, nc13, ⟨(by decide +kernel : (parseMethodDescriptor yX3_howOften.desc).map (fun d => d.parameters.length + 1) = some 2), hw, wk_1533, wk_1534, (RX3, TX3, 7), rfl, rfl⟩⟩⟩
theorem kc_226 {l : Launch} (hl : l.stackTraces = false) {G : GT} {own : String} {i : Nat} (hw : Jvm.Cond.methodLink own i yX3_lift ∈ WS) : vCal l G own i (2, 2, 7, 6, (fun _ _ => 0), (fun _ _ => 0), yX3_lift, spOf (MX3_lift (gg G))) := ⟨cX3_lift, 3, some .int, fun y hy => by subst hy; exact ⟨by decide, ⟨_, wk_1589, okX3_lift hl, Or.inl ⟨Nat.ne_of_beq_eq_false rfl, rfl⟩⟩, wk_60, nc13, ⟨(by decide +kernel : (parseMethodDescriptor yX3_lift.desc).map (fun d => d.parameters.length + 1) = some 2), hw, wk_1587, wk_1588, (RX3, TX3, 7), rfl, rfl⟩⟩⟩
theorem kc_227 {l : Launch} (hl : l.stackTraces = false) {G : GT} {own : String} {i : Nat} (hw : Jvm.Cond.methodLink own i yX3_pick ∈ WS) : vCal l G own i (2, 3, 7, 5, (fun _ _ => 0), (fun _ _ => 0), yX3_pick, spOf (MX3_pick (gg G))) := ⟨cX3_pick, 4, some .int, fun y hy => by subst hy; exact ⟨by decide, ⟨_, wk_1602, okX3_pick hl, Or.inl ⟨Nat.ne_of_beq_eq_false rfl, rfl⟩⟩, wk_60, nc13, ⟨(by decide +kernel : (parseMethodDescriptor yX3_pick.desc).map (fun d => d.parameters.length + 1) = some 3), hw, wk_1600, wk_1601, (RX3, TX3, 7), rfl, rfl⟩⟩⟩
theorem kc_228 {l : Launch} (hl : l.stackTraces = false) {G : GT} {own : String} {i : Nat} (hw : Jvm.Cond.methodLink own i yX1_turn ∈ WS) : vCal l G own i (2, 1, 5, 1, (fun _ _ => 0), (fun _ _ => 0), yX1_turn, spOf (MX1_turn (gg G))) := ⟨cX1_turn, 4, some .int, fun y hy => by subst hy; exact ⟨by decide, ⟨_, wk_124, okX1_turn hl, Or.inl ⟨Nat.ne_of_beq_eq_false rfl, rfl⟩⟩, wk_59, nc14, ⟨(by decide +kernel : (parseMethodDescriptor yX1_turn.desc).map (fun d => d.parameters.length + 1) = some 1), hw, wk_122, wk_123, (RX1, TX1, 7), rfl, rfl⟩⟩⟩
theorem kc_229 {l : Launch} (hl : l.stackTraces = false) {G : GT} {own : String} {i : Nat} (hw : Jvm.Cond.methodLink own i yX3_turn ∈ WS) : vCal l G own i (2, 1, 7, 6, (fun _ _ => 14), (fun _ _ => 187), yX3_turn, spOf (MX3_turn (gg G))) := ⟨cX3_turn, 4, some .int, fun y hy => by subst hy; exact ⟨by decide, ⟨_, wk_1606, okX3_turn hl, Or.inl ⟨Nat.ne_of_beq_eq_false rfl, rfl⟩⟩, wk_60, nc13, ⟨(by decide +kernel : (parseMethodDescriptor yX3_turn.desc).map (fun d => d.parameters.length + 1) = some 1), hw, wk_1604, wk_1605, (RX3, TX3, 7), rfl, rfl⟩⟩⟩
theorem kc_230 {l : Launch} (hl : l.stackTraces = false) {G : GT} {own : String} {i : Nat} (hw : Jvm.Cond.methodLink own i yX1_sweep ∈ WS) : vCal l G own i (2, 1, 5, 1, (fun _ _ => 0), (fun _ _ => 0), yX1_sweep, spOf (MX1_sweep (gg G))) := ⟨cX1_sweep, 3, some .int, fun y hy => by subst hy; exact ⟨by decide, ⟨_, wk_128, okX1_sweep hl, Or.inl ⟨Nat.ne_of_beq_eq_false rfl, rfl⟩⟩, wk_59, nc14, ⟨(by decide +kernel : (parseMethodDescriptor yX1_sweep.desc).map (fun d => d.parameters.length + 1) = some 1), hw, wk_126, wk_127, (RX1, TX1, 7), rfl, rfl⟩⟩⟩
theorem kc_231 {l : Launch} (hl : l.stackTraces = false) {G : GT} {own : String} {i : Nat} (hw : Jvm.Cond.methodLink own i yX3_sweep ∈ WS) : vCal l G own i (2, 1, 7, 4, (fun _ _ => 1), (fun _ _ => 3), yX3_sweep, spOf (MX3_sweep (gg G))) := ⟨cX3_sweep, 2, some .int, fun y hy => by subst hy; exact ⟨by decide, ⟨_, wk_1631, okX3_sweep hl, Or.inl ⟨Nat.ne_of_beq_eq_false rfl, rfl⟩⟩, wk_60, nc13, ⟨(by decide +kernel : (parseMethodDescriptor yX3_sweep.desc).map (fun d => d.parameters.length + 1) = some 1), hw, wk_1629, wk_1630, (RX3, TX3, 7), rfl, rfl⟩⟩⟩
theorem kc_232 {l : Launch} (hl : l.stackTraces = false) {G : GT} {own : String} {i : Nat} (hw : Jvm.Cond.methodLink own i yX3_pile ∈ WS) : vCal l G own i (2, 3, 7, 6, (fun _ _ => 12), (fun _ _ => 72), yX3_pile, spOf (MX3_pile (gg G))) := ⟨cX3_pile, 3, some .int, fun y hy => by subst hy; exact ⟨by decide, ⟨_, wk_1635, okX3_pile hl, Or.inl ⟨Nat.ne_of_beq_eq_false rfl, rfl⟩⟩, wk_60, nc13, ⟨(by decide +kernel : (parseMethodDescriptor yX3_pile.desc).map (fun d => d.parameters.length + 1) = some 3), hw, wk_1633, wk_1634, (RX3, TX3, 7), rfl, rfl⟩⟩⟩
theorem kc_233 {l : Launch} (hl : l.stackTraces = false) {G : GT} {own : String} {i : Nat} (hw : Jvm.Cond.methodLink own i yX3_house ∈ WS) : vCal l G own i (2, 2, 7, 4, (fun _ _ => 2), (fun _ _ => 9), yX3_house, spOf (MX3_house (gg G))) := ⟨cX3_house, 2, some .int, fun y hy => by subst hy; exact ⟨by decide, ⟨_, wk_1648, okX3_house hl, Or.inl ⟨Nat.ne_of_beq_eq_false rfl, rfl⟩⟩, wk_60, nc13, ⟨(by decide +kernel : (parseMethodDescriptor yX3_house.desc).map (fun d => d.parameters.length + 1) = some 2), hw, wk_1646, wk_1647, (RX3, TX3, 7), rfl, rfl⟩⟩⟩
theorem kc_234 {l : Launch} (hl : l.stackTraces = false) {G : GT} {own : String} {i : Nat} (hw : Jvm.Cond.methodLink own i yX1_knock ∈ WS) : vCal l G own i (2, 1, 5, 1, (fun _ _ => 0), (fun _ _ => 0), yX1_knock, spOf (MX1_knock (gg G))) := ⟨cX1_knock, 1, some .int, fun y hy => by subst hy; exact ⟨by decide, ⟨_, wk_132, okX1_knock hl, Or.inl ⟨Nat.ne_of_beq_eq_false rfl, rfl⟩⟩, wk_59, nc14, ⟨(by decide +kernel : (parseMethodDescriptor yX1_knock.desc).map (fun d => d.parameters.length + 1) = some 1), hw, wk_130, wk_131, (RX1, TX1, 7), rfl, rfl⟩⟩⟩
theorem kc_235 {l : Launch} (hl : l.stackTraces = false) {G : GT} {own : String} {i : Nat} (hw : Jvm.Cond.methodLink own i yX3_knock ∈ WS) : vCal l G own i (2, 1, 7, 1, (fun _ _ => 0), (fun _ _ => 0), yX3_knock, spOf (MX3_knock (gg G))) := ⟨cX3_knock, 1, some .int, fun y hy => by subst hy; exact ⟨by decide, ⟨_, wk_1657, okX3_knock hl, Or.inl ⟨Nat.ne_of_beq_eq_false rfl, rfl⟩⟩, wk_60, nc13, ⟨(by decide +kernel : (parseMethodDescriptor yX3_knock.desc).map (fun d => d.parameters.length + 1) = some 1), hw, wk_1655, wk_1656, (RX3, TX3, 7), rfl, rfl⟩⟩⟩
theorem kc_236 {l : Launch} (hl : l.stackTraces = false) {G : GT} {own : String} {i : Nat} (hw : Jvm.Cond.methodLink own i yX3_isSound ∈ WS) : vCal l G own i (2, 1, 7, 1, (fun _ _ => 0), (fun _ _ => 0), yX3_isSound, spOf (MX3_isSound (gg G))) := ⟨cX3_isSound, 1, some .boolean, fun y hy => by subst hy; exact ⟨by decide, ⟨_, wk_1661, okX3_isSound hl, Or.inl ⟨Nat.ne_of_beq_eq_false rfl, rfl⟩⟩, wk_60, nc13, ⟨(by decide +kernel : (parseMethodDescriptor yX3_isSound.desc).map (fun d => d.parameters.length + 1) = some 1), hw, wk_1659, wk_1660, (RX3, TX3, 7), rfl, rfl⟩⟩⟩
theorem kc_237 {l : Launch} (hl : l.stackTraces = false) {G : GT} {own : String} {i : Nat} (hw : Jvm.Cond.methodLink own i yX1_digest ∈ WS) : vCal l G own i (2, 1, 5, 7, (fun _ _ => 24), (fun _ _ => 96), yX1_digest, spOf (MX1_digest (gg G))) := ⟨cX1_digest, 4, some .long, fun y hy => by subst hy; exact ⟨by decide, ⟨_, wk_247, okX1_digest hl, Or.inl ⟨Nat.ne_of_beq_eq_false rfl, rfl⟩⟩, wk_59, nc14, ⟨(by decide +kernel : (parseMethodDescriptor yX1_digest.desc).map (fun d => d.parameters.length + 1) = some 1), hw, wk_245, wk_246, (RX1, TX1, 7), rfl, rfl⟩⟩⟩
theorem kc_238 {l : Launch} (hl : l.stackTraces = false) {G : GT} {own : String} {i : Nat} (hw : Jvm.Cond.methodLink own i yX3_digest ∈ WS) : vCal l G own i (2, 1, 7, 6, (fun _ _ => 90), (fun _ _ => 520), yX3_digest, spOf (MX3_digest (gg G))) := ⟨cX3_digest, 6, some .long, fun y hy => by subst hy; exact ⟨by decide, ⟨_, wk_1665, okX3_digest hl, Or.inl ⟨Nat.ne_of_beq_eq_false rfl, rfl⟩⟩, wk_60, nc13, ⟨(by decide +kernel : (parseMethodDescriptor yX3_digest.desc).map (fun d => d.parameters.length + 1) = some 1), hw, wk_1663, wk_1664, (RX3, TX3, 7), rfl, rfl⟩⟩⟩
theorem vML_law {l : Launch} (hl : l.stackTraces = false) (G : GT) : vM l G (ML_law (gg G)) := vM_k RL cL_law rfl rfl (all_c (vF_RL_13) (all_n)) (all_c (vN_RL_8) (all_c (vN_RL_168) (all_c (vN_RL_14) (all_n)))) all_n all_n all_n (fun h => absurd rfl h) (all_c (kc_183 hl wk_90) (all_c (kc_184 hl wk_1116) (all_c (⟨cX2_init, 1, none, fun y hy => by subst hy; exact ⟨by decide, ⟨_, wk_336, okX2_init hl, Or.inl ⟨Nat.ne_of_beq_eq_false rfl, rfl⟩⟩, wk_68, nc15, ⟨(by decide +kernel : (parseMethodDescriptor yX2_init.desc).map (fun d => d.parameters.length + 1) = some 1), rfl, ⟨"RangecardLaw", List.mem_of_getElem? (i := 334) (by decide +kernel : lw_tbl[334]? = some (.methodLinkNest RL 171 yX2_init "RangecardLaw"))⟩, wk_335, rfl⟩⟩⟩) (all_c (⟨cL_set, 6, some .int, fun y hy => by subst hy; exact ⟨by decide, ⟨_, wk_347, okL_set hl, Or.inr ⟨rfl, _, rfl⟩⟩, wk_58, nc16, ⟨(by decide +kernel : (parseMethodDescriptor yL_set.desc).map (fun d => d.parameters.length) = some 5), ⟨wk_345, trivial⟩, wk_346⟩⟩⟩) (all_c (kc_185 hl wk_1218) (all_c (⟨cL_setSmall, 5, some .int, fun y hy => by subst hy; exact ⟨by decide, ⟨_, wk_427, okL_setSmall hl, Or.inr ⟨rfl, _, rfl⟩⟩, wk_58, nc16, ⟨(by decide +kernel : (parseMethodDescriptor yL_setSmall.desc).map (fun d => d.parameters.length) = some 4), ⟨wk_425, trivial⟩, wk_426⟩⟩⟩) (all_c (kc_186 hl wk_1240) (all_c (⟨cL_setEnd, 5, some .int, fun y hy => by subst hy; exact ⟨by decide, ⟨_, wk_434, okL_setEnd hl, Or.inr ⟨rfl, _, rfl⟩⟩, wk_58, nc16, ⟨(by decide +kernel : (parseMethodDescriptor yL_setEnd.desc).map (fun d => d.parameters.length) = some 4), ⟨wk_432, trivial⟩, wk_433⟩⟩⟩) (all_c (kc_187 hl wk_1248) (all_c (⟨cL_move, 5, some .int, fun y hy => by subst hy; exact ⟨by decide, ⟨_, wk_470, okL_move hl, Or.inr ⟨rfl, _, rfl⟩⟩, wk_58, nc16, ⟨(by decide +kernel : (parseMethodDescriptor yL_move.desc).map (fun d => d.parameters.length) = some 4), ⟨wk_468, trivial⟩, wk_469⟩⟩⟩) (all_c (kc_188 hl wk_1259) (all_c (⟨cL_copy, 5, some .int, fun y hy => by subst hy; exact ⟨by decide, ⟨_, wk_477, okL_copy hl, Or.inr ⟨rfl, _, rfl⟩⟩, wk_58, nc16, ⟨(by decide +kernel : (parseMethodDescriptor yL_copy.desc).map (fun d => d.parameters.length) = some 4), ⟨wk_475, trivial⟩, wk_476⟩⟩⟩) (all_c (kc_189 hl wk_1263) (all_c (⟨cL_ofNumber, 5, some .int, fun y hy => by subst hy; exact ⟨by decide, ⟨_, wk_484, okL_ofNumber hl, Or.inr ⟨rfl, _, rfl⟩⟩, wk_58, nc16, ⟨(by decide +kernel : (parseMethodDescriptor yL_ofNumber.desc).map (fun d => d.parameters.length) = some 4), ⟨wk_482, trivial⟩, wk_483⟩⟩⟩) (all_c (kc_190 hl wk_1267) (all_c (⟨cL_numberText, 4, some .int, fun y hy => by subst hy; exact ⟨by decide, ⟨_, wk_494, okL_numberText hl, Or.inr ⟨rfl, _, rfl⟩⟩, wk_58, nc16, ⟨(by decide +kernel : (parseMethodDescriptor yL_numberText.desc).map (fun d => d.parameters.length) = some 3), ⟨wk_492, trivial⟩, wk_493⟩⟩⟩) (all_c (kc_191 hl wk_1271) (all_c (⟨cL_order, 5, some .int, fun y hy => by subst hy; exact ⟨by decide, ⟨_, wk_804, okL_order hl, Or.inr ⟨rfl, _, rfl⟩⟩, wk_58, nc16, ⟨(by decide +kernel : (parseMethodDescriptor yL_order.desc).map (fun d => d.parameters.length) = some 4), ⟨wk_802, trivial⟩, wk_803⟩⟩⟩) (all_c (kc_192 hl wk_1307) (all_c (⟨cL_two, 6, some .int, fun y hy => by subst hy; exact ⟨by decide, ⟨_, wk_811, okL_two hl, Or.inr ⟨rfl, _, rfl⟩⟩, wk_58, nc16, ⟨(by decide +kernel : (parseMethodDescriptor yL_two.desc).map (fun d => d.parameters.length) = some 5), ⟨wk_809, trivial⟩, wk_810⟩⟩⟩) (all_c (kc_193 hl wk_1314) (all_c (⟨cL_three, 7, some .int, fun y hy => by subst hy; exact ⟨by decide, ⟨_, wk_830, okL_three hl, Or.inr ⟨rfl, _, rfl⟩⟩, wk_58, nc16, ⟨(by decide +kernel : (parseMethodDescriptor yL_three.desc).map (fun d => d.parameters.length) = some 6), ⟨wk_828, trivial⟩, wk_829⟩⟩⟩) (all_c (kc_194 hl wk_1344) (all_c (⟨cL_four, 8, some .int, fun y hy => by subst hy; exact ⟨by decide, ⟨_, wk_840, okL_four hl, Or.inr ⟨rfl, _, rfl⟩⟩, wk_58, nc16, ⟨(by decide +kernel : (parseMethodDescriptor yL_four.desc).map (fun d => d.parameters.length) = some 7), ⟨wk_838, trivial⟩, wk_839⟩⟩⟩) (all_c (kc_195 hl wk_1348) (all_c (⟨cL_twoSmall, 6, some .int, fun y hy => by subst hy; exact ⟨by decide, ⟨_, wk_847, okL_twoSmall hl, Or.inr ⟨rfl, _, rfl⟩⟩, wk_58, nc16, ⟨(by decide +kernel : (parseMethodDescriptor yL_twoSmall.desc).map (fun d => d.parameters.length) = some 5), ⟨wk_845, trivial⟩, wk_846⟩⟩⟩) (all_c (kc_196 hl wk_1352) (all_c (⟨cL_threeSmall, 7, some .int, fun y hy => by subst hy; exact ⟨by decide, ⟨_, wk_854, okL_threeSmall hl, Or.inr ⟨rfl, _, rfl⟩⟩, wk_58, nc16, ⟨(by decide +kernel : (parseMethodDescriptor yL_threeSmall.desc).map (fun d => d.parameters.length) = some 6), ⟨wk_852, trivial⟩, wk_853⟩⟩⟩) (all_c (kc_197 hl wk_1356) (all_c (⟨cL_fourSmall, 8, some .int, fun y hy => by subst hy; exact ⟨by decide, ⟨_, wk_861, okL_fourSmall hl, Or.inr ⟨rfl, _, rfl⟩⟩, wk_58, nc16, ⟨(by decide +kernel : (parseMethodDescriptor yL_fourSmall.desc).map (fun d => d.parameters.length) = some 7), ⟨wk_859, trivial⟩, wk_860⟩⟩⟩) (all_c (kc_198 hl wk_1360) (all_c (⟨cL_again, 5, some .int, fun y hy => by subst hy; exact ⟨by decide, ⟨_, wk_868, okL_again hl, Or.inr ⟨rfl, _, rfl⟩⟩, wk_58, nc16, ⟨(by decide +kernel : (parseMethodDescriptor yL_again.desc).map (fun d => d.parameters.length) = some 4), ⟨wk_866, trivial⟩, wk_867⟩⟩⟩) (all_c (kc_199 hl wk_1364) (all_c (⟨cL_same, 5, some .int, fun y hy => by subst hy; exact ⟨by decide, ⟨_, wk_902, okL_same hl, Or.inr ⟨rfl, _, rfl⟩⟩, wk_58, nc16, ⟨(by decide +kernel : (parseMethodDescriptor yL_same.desc).map (fun d => d.parameters.length) = some 4), ⟨wk_900, trivial⟩, wk_901⟩⟩⟩) (all_c (kc_200 hl wk_1381) (all_c (⟨cL_outer, 5, some .int, fun y hy => by subst hy; exact ⟨by decide, ⟨_, wk_909, okL_outer hl, Or.inr ⟨rfl, _, rfl⟩⟩, wk_58, nc16, ⟨(by decide +kernel : (parseMethodDescriptor yL_outer.desc).map (fun d => d.parameters.length) = some 4), ⟨wk_907, trivial⟩, wk_908⟩⟩⟩) (all_c (kc_201 hl wk_1388) (all_c (⟨cL_inner, 5, some .int, fun y hy => by subst hy; exact ⟨by decide, ⟨_, wk_916, okL_inner hl, Or.inr ⟨rfl, _, rfl⟩⟩, wk_58, nc16, ⟨(by decide +kernel : (parseMethodDescriptor yL_inner.desc).map (fun d => d.parameters.length) = some 4), ⟨wk_914, trivial⟩, wk_915⟩⟩⟩) (all_c (kc_202 hl wk_1395) (all_c (⟨cL_span, 6, some .int, fun y hy => by subst hy; exact ⟨by decide, ⟨_, wk_923, okL_span hl, Or.inr ⟨rfl, _, rfl⟩⟩, wk_58, nc16, ⟨(by decide +kernel : (parseMethodDescriptor yL_span.desc).map (fun d => d.parameters.length) = some 5), ⟨wk_921, trivial⟩, wk_922⟩⟩⟩) (all_c (kc_203 hl wk_1399) (all_c (⟨cL_shift, 5, some .int, fun y hy => by subst hy; exact ⟨by decide, ⟨_, wk_930, okL_shift hl, Or.inr ⟨rfl, _, rfl⟩⟩, wk_58, nc16, ⟨(by decide +kernel : (parseMethodDescriptor yL_shift.desc).map (fun d => d.parameters.length) = some 4), ⟨wk_928, trivial⟩, wk_929⟩⟩⟩) (all_c (kc_204 hl wk_1403) (all_c (⟨cL_drop, 4, some .int, fun y hy => by subst hy; exact ⟨by decide, ⟨_, wk_937, okL_drop hl, Or.inr ⟨rfl, _, rfl⟩⟩, wk_58, nc16, ⟨(by decide +kernel : (parseMethodDescriptor yL_drop.desc).map (fun d => d.parameters.length) = some 3), ⟨wk_935, trivial⟩, wk_936⟩⟩⟩) (all_c (kc_205 hl wk_1411) (all_c (⟨cL_isThere, 4, some .int, fun y hy => by subst hy; exact ⟨by decide, ⟨_, wk_944, okL_isThere hl, Or.inr ⟨rfl, _, rfl⟩⟩, wk_58, nc16, ⟨(by decide +kernel : (parseMethodDescriptor yL_isThere.desc).map (fun d => d.parameters.length) = some 3), ⟨wk_942, trivial⟩, wk_943⟩⟩⟩) (all_c (kc_206 hl wk_1415) (all_c (⟨cL_isFixed, 4, some .int, fun y hy => by subst hy; exact ⟨by decide, ⟨_, wk_951, okL_isFixed hl, Or.inr ⟨rfl, _, rfl⟩⟩, wk_58, nc16, ⟨(by decide +kernel : (parseMethodDescriptor yL_isFixed.desc).map (fun d => d.parameters.length) = some 3), ⟨wk_949, trivial⟩, wk_950⟩⟩⟩) (all_c (kc_207 hl wk_1419) (all_c (⟨cL_isSmall, 4, some .int, fun y hy => by subst hy; exact ⟨by decide, ⟨_, wk_958, okL_isSmall hl, Or.inr ⟨rfl, _, rfl⟩⟩, wk_58, nc16, ⟨(by decide +kernel : (parseMethodDescriptor yL_isSmall.desc).map (fun d => d.parameters.length) = some 3), ⟨wk_956, trivial⟩, wk_957⟩⟩⟩) (all_c (kc_208 hl wk_1423) (all_c (⟨cL_end, 6, some .int, fun y hy => by subst hy; exact ⟨by decide, ⟨_, wk_965, okL_end hl, Or.inr ⟨rfl, _, rfl⟩⟩, wk_58, nc16, ⟨(by decide +kernel : (parseMethodDescriptor yL_end.desc).map (fun d => d.parameters.length) = some 5), ⟨wk_963, trivial⟩, wk_964⟩⟩⟩) (all_c (kc_209 hl wk_1430) (all_c (⟨cL_take, 6, some .int, fun y hy => by subst hy; exact ⟨by decide, ⟨_, wk_972, okL_take hl, Or.inr ⟨rfl, _, rfl⟩⟩, wk_58, nc16, ⟨(by decide +kernel : (parseMethodDescriptor yL_take.desc).map (fun d => d.parameters.length) = some 5), ⟨wk_970, trivial⟩, wk_971⟩⟩⟩) (all_c (kc_210 hl wk_1441) (all_c (⟨cL_cardText, 4, some .int, fun y hy => by subst hy; exact ⟨by decide, ⟨_, wk_979, okL_cardText hl, Or.inr ⟨rfl, _, rfl⟩⟩, wk_58, nc16, ⟨(by decide +kernel : (parseMethodDescriptor yL_cardText.desc).map (fun d => d.parameters.length) = some 3), ⟨wk_977, trivial⟩, wk_978⟩⟩⟩) (all_c (kc_211 hl wk_1445) (all_c (⟨cL_isValid, 5, some .int, fun y hy => by subst hy; exact ⟨by decide, ⟨_, wk_987, okL_isValid hl, Or.inr ⟨rfl, _, rfl⟩⟩, wk_58, nc16, ⟨(by decide +kernel : (parseMethodDescriptor yL_isValid.desc).map (fun d => d.parameters.length) = some 4), ⟨wk_985, trivial⟩, wk_986⟩⟩⟩) (all_c (kc_212 hl wk_1451) (all_c (⟨cL_isValidSmall, 5, some .int, fun y hy => by subst hy; exact ⟨by decide, ⟨_, wk_994, okL_isValidSmall hl, Or.inr ⟨rfl, _, rfl⟩⟩, wk_58, nc16, ⟨(by decide +kernel : (parseMethodDescriptor yL_isValidSmall.desc).map (fun d => d.parameters.length) = some 4), ⟨wk_992, trivial⟩, wk_993⟩⟩⟩) (all_c (kc_213 hl wk_1462) (all_c (⟨cL_whichValid, 5, some .int, fun y hy => by subst hy; exact ⟨by decide, ⟨_, wk_1001, okL_whichValid hl, Or.inr ⟨rfl, _, rfl⟩⟩, wk_58, nc16, ⟨(by decide +kernel : (parseMethodDescriptor yL_whichValid.desc).map (fun d => d.parameters.length) = some 4), ⟨wk_999, trivial⟩, wk_1000⟩⟩⟩) (all_c (kc_214 hl wk_1466) (all_c (⟨cL_around, 6, some .int, fun y hy => by subst hy; exact ⟨by decide, ⟨_, wk_1008, okL_around hl, Or.inr ⟨rfl, _, rfl⟩⟩, wk_58, nc16, ⟨(by decide +kernel : (parseMethodDescriptor yL_around.desc).map (fun d => d.parameters.length) = some 5), ⟨wk_1006, trivial⟩, wk_1007⟩⟩⟩) (all_c (kc_215 hl wk_1473) (all_c (⟨cL_count, 6, some .int, fun y hy => by subst hy; exact ⟨by decide, ⟨_, wk_1015, okL_count hl, Or.inr ⟨rfl, _, rfl⟩⟩, wk_58, nc16, ⟨(by decide +kernel : (parseMethodDescriptor yL_count.desc).map (fun d => d.parameters.length) = some 5), ⟨wk_1013, trivial⟩, wk_1014⟩⟩⟩) (all_c (kc_216 hl wk_1480) (all_c (⟨cL_who, 5, some .int, fun y hy => by subst hy; exact ⟨by decide, ⟨_, wk_1023, okL_who hl, Or.inr ⟨rfl, _, rfl⟩⟩, wk_58, nc16, ⟨(by decide +kernel : (parseMethodDescriptor yL_who.desc).map (fun d => d.parameters.length) = some 4), ⟨wk_1021, trivial⟩, wk_1022⟩⟩⟩) (all_c (kc_217 hl wk_1484) (all_c (⟨cL_which, 4, some .int, fun y hy => by subst hy; exact ⟨by decide, ⟨_, wk_1030, okL_which hl, Or.inr ⟨rfl, _, rfl⟩⟩, wk_58, nc16, ⟨(by decide +kernel : (parseMethodDescriptor yL_which.desc).map (fun d => d.parameters.length) = some 3), ⟨wk_1028, trivial⟩, wk_1029⟩⟩⟩) (all_c (kc_218 hl wk_1492) (all_c (kc_219 hl wk_1214) (all_c (⟨cL_areSame, 5, some .int, fun y hy => by subst hy; exact ⟨by decide, ⟨_, wk_1037, okL_areSame hl, Or.inr ⟨rfl, _, rfl⟩⟩, wk_58, nc16, ⟨(by decide +kernel : (parseMethodDescriptor yL_areSame.desc).map (fun d => d.parameters.length) = some 4), ⟨wk_1035, trivial⟩, wk_1036⟩⟩⟩) (all_c (kc_220 hl wk_1500) (all_c (⟨cL_isSameAs, 5, some .int, fun y hy => by subst hy; exact ⟨by decide, ⟨_, wk_1044, okL_isSameAs hl, Or.inr ⟨rfl, _, rfl⟩⟩, wk_58, nc16, ⟨(by decide +kernel : (parseMethodDescriptor yL_isSameAs.desc).map (fun d => d.parameters.length) = some 4), ⟨wk_1042, trivial⟩, wk_1043⟩⟩⟩) (all_c (kc_221 hl wk_1504) (all_c (⟨cL_likes, 4, some .int, fun y hy => by subst hy; exact ⟨by decide, ⟨_, wk_1051, okL_likes hl, Or.inr ⟨rfl, _, rfl⟩⟩, wk_58, nc16, ⟨(by decide +kernel : (parseMethodDescriptor yL_likes.desc).map (fun d => d.parameters.length) = some 3), ⟨wk_1049, trivial⟩, wk_1050⟩⟩⟩) (all_c (kc_222 hl wk_1508) (all_c (⟨cL_lay, 4, some .int, fun y hy => by subst hy; exact ⟨by decide, ⟨_, wk_1058, okL_lay hl, Or.inr ⟨rfl, _, rfl⟩⟩, wk_58, nc16, ⟨(by decide +kernel : (parseMethodDescriptor yL_lay.desc).map (fun d => d.parameters.length) = some 3), ⟨wk_1056, trivial⟩, wk_1057⟩⟩⟩) (all_c (kc_223 hl wk_1516) (all_c (⟨cL_seek, 5, some .int, fun y hy => by subst hy; exact ⟨by decide, ⟨_, wk_1065, okL_seek hl, Or.inr ⟨rfl, _, rfl⟩⟩, wk_58, nc16, ⟨(by decide +kernel : (parseMethodDescriptor yL_seek.desc).map (fun d => d.parameters.length) = some 4), ⟨wk_1063, trivial⟩, wk_1064⟩⟩⟩) (all_c (kc_224 hl wk_1524) (all_c (⟨cL_howOften, 4, some .int, fun y hy => by subst hy; exact ⟨by decide, ⟨_, wk_1072, okL_howOften hl, Or.inr ⟨rfl, _, rfl⟩⟩, wk_58, nc16, ⟨(by decide +kernel : (parseMethodDescriptor yL_howOften.desc).map (fun d => d.parameters.length) = some 3), ⟨wk_1070, trivial⟩, wk_1071⟩⟩⟩) (all_c (kc_225 hl wk_1532) (all_c (⟨cL_lift, 4, some .int, fun y hy => by subst hy; exact ⟨by decide, ⟨_, wk_1079, okL_lift hl, Or.inr ⟨rfl, _, rfl⟩⟩, wk_58, nc16, ⟨(by decide +kernel : (parseMethodDescriptor yL_lift.desc).map (fun d => d.parameters.length) = some 3), ⟨wk_1077, trivial⟩, wk_1078⟩⟩⟩) (all_c (kc_226 hl wk_1586) (all_c (⟨cL_pick, 5, some .int, fun y hy => by subst hy; exact ⟨by decide, ⟨_, wk_1090, okL_pick hl, Or.inr ⟨rfl, _, rfl⟩⟩, wk_58, nc16, ⟨(by decide +kernel : (parseMethodDescriptor yL_pick.desc).map (fun d => d.parameters.length) = some 4), ⟨wk_1088, trivial⟩, wk_1089⟩⟩⟩) (all_c (kc_227 hl wk_1599) (all_c (kc_228 hl wk_121) (all_c (kc_229 hl wk_1603) (all_c (kc_230 hl wk_125) (all_c (kc_231 hl wk_1628) (all_c (⟨cL_pile, 5, some .int, fun y hy => by subst hy; exact ⟨by decide, ⟨_, wk_1102, okL_pile hl, Or.inr ⟨rfl, _, rfl⟩⟩, wk_58, nc16, ⟨(by decide +kernel : (parseMethodDescriptor yL_pile.desc).map (fun d => d.parameters.length) = some 4), ⟨wk_1100, trivial⟩, wk_1101⟩⟩⟩) (all_c (kc_232 hl wk_1632) (all_c (⟨cL_house, 4, some .int, fun y hy => by subst hy; exact ⟨by decide, ⟨_, wk_1109, okL_house hl, Or.inr ⟨rfl, _, rfl⟩⟩, wk_58, nc16, ⟨(by decide +kernel : (parseMethodDescriptor yL_house.desc).map (fun d => d.parameters.length) = some 3), ⟨wk_1107, trivial⟩, wk_1108⟩⟩⟩) (all_c (kc_233 hl wk_1645) (all_c (kc_234 hl wk_129) (all_c (kc_235 hl wk_1654) (all_c (kc_134 hl wk_133) (all_c (kc_236 hl wk_1658) (all_c (kc_237 hl wk_244) (all_c (kc_238 hl wk_1662) (all_n))))))))))))))))))))))))))))))))))))))))))))))))))))))))))))))))))))))))))))))))))))))))))))))))))))))) all_n all_n (fun h => absurd rfl h) rfl all_n
end
/-! 69p.pil5.lean.txt -/
section
section
variable {g : RO} {Q : Ot → Hw → Prop} {w0 w : Hw}
variable {y nM : Nat} {kd : Int32}
theorem ext.k1 {w' : Hw} {a : Nat} {o : Ob} (k : ext g w w') (h : w a = some o) : w' a = some o := k.1 a o h
theorem sNext1 {q L D cap b : Nat} {c lr n mc : Int32} {h : Nat → Option Nat} (hq : w q = some (.inr (2, [.int c, .int lr, .int mc, .ref L]))) (hL : w L = some (.inr (3, [.int mc, .ref D, .int n]))) (rD : rd g w D = some (.inl (5, cap, qc h))) (k0 : 0 ≤ c.toInt) (k1 : c.toInt < n.toInt) (hn : n.toInt ≤ (cap : Int)) (hc : cap ≤ 15) (hb : h c.toNatClampNeg = some b) (hR : Q (.inl (some (.ref b))) (upw w q (.inr (2, [.int (c + 1), .int c, .int mc, .ref L])))) : WP (MJx35411_next_0502b g) Q (0, [some (.ref q), none, none], [], w, 0, 0) := sJx35411_next_0502b hq hL rD k0 k1 hn hc (fun e => by
  rw [hb] at e
  cases e) (fun b9 e => by
  rw [hb] at e
  cases e
  exact hR)
theorem sIter1 {L D cap : Nat} {mc n : Int32} {h : Nat → Option Nat} (hl : LL g w L D cap n h) (hL : w L = some (.inr (3, [.int mc, .ref D, .int n]))) (hQ : ∀ q, rd g w q = none → Q (.inl (some (.ref q))) (upw w q (.inr (2, [.int 0, .int (-1), .int mc, .ref L])))) : WP (MJx4a65c_iterator_32c93 g) Q (0, [some (.ref L)], [], w, 0, 0) := sJx4a65c_iterator_32c93 hl (fun q mc9 e hq => by
  rw [hL] at e
  cases e
  exact hQ q hq)
end
end
/-! 69p.pil6.lean.txt -/
section
section
variable {g : RO} {Q : Ot → Hw → Prop} {w0 w : Hw}
variable {y nM : Nat} {kd : Int32}
theorem sX3_fixedV {g : RO} {Q : Ot → Hw → Prop} {w : Hw} {p : Nat} (hp : isRow w p) (hQ : ∀ v : Int32, Q (.inl (some (.int v))) w) : WP (MX3_fixed g) Q (0, [some (.ref p)], [], w, 0, 0) := sX3_fixed hp (hQ 1) (hQ 0)
theorem sX3_smallV {g : RO} {Q : Ot → Hw → Prop} {w : Hw} {p : Nat} (hp : isRow w p) (hQ : ∀ v : Int32, Q (.inl (some (.int v))) w) : WP (MX3_small g) Q (0, [some (.ref p)], [], w, 0, 0) := sX3_small hp (hQ 1) (hQ 0)
theorem sX3_validV {g : RO} {Q : Ot → Hw → Prop} {w : Hw} {p : Nat} {a : Int64} {b : Int32} (hp : isRow w p) (hQ : ∀ v : Int32, Q (.inl (some (.int v))) w) : WP (MX3_valid g) Q (0, [some (.ref p), some (.long a), none, some (.int b)], [], w, 0, 0) := sX3_valid hp (hQ 1) (hQ 0)
theorem ext_up3 {w1 : Hw} {q : Nat} {o : Ob} (h : ext g w w1) (hq : rd g w1 q = none) : ext g w (upw w1 q o) := ext_up2 h (by
  have e : w q = none := by
    cases e : w q with
    | none => rfl
    | some o2 =>
      have e2 := rd_none hq
      rw [h.1 _ _ e] at e2
      cases e2
  unfold rd
  rw [e]
  exact rd_ro hq)
theorem ext_n {w' : Hw} {a : Nat} (k : ext g w w') (h : w' a = none) : w a = none := by
  cases e : w a with
  | none => rfl
  | some o =>
    rw [k.1 _ _ e] at h
    cases h
theorem pz1 {i n : Int32} {k : Nat} (h : i < n) (hk : (k : Int) ≤ i.toInt) (hn : 0 ≤ n.toInt ∧ n.toInt ≤ 12) : k + 1 ≤ 12 := by
  have := i32_lt h
  omega
theorem pz6 {i n : Int32} {k : Nat} (h : i < n) (hk : (k : Int) ≤ 6 * i.toInt) (hn : 0 ≤ n.toInt ∧ n.toInt ≤ 12) : k + 6 ≤ 72 := by
  have := i32_lt h
  omega
theorem pz1e {i n : Int32} {k : Nat} (h : ¬ i < n) (hn : 0 ≤ n.toInt ∧ n.toInt ≤ 12) (hi : i.toInt ≤ n.toInt) (hk : (k : Int) ≤ i.toInt) : k ≤ 12 := by
  omega
theorem pz6e {i n : Int32} {k : Nat} (h : ¬ i < n) (hn : 0 ≤ n.toInt ∧ n.toInt ≤ 12) (hi : i.toInt ≤ n.toInt) (hk : (k : Int) ≤ 6 * i.toInt) : k ≤ 72 := by
  omega
theorem pz_n {i n : Int32} (h : i < n) : (i + 1).toInt ≤ n.toInt := by
  rw [i32_s h]
  have := i32_lt h
  omega
theorem n6e : (6 : Int32).toNatClampNeg = 6 := rfl
theorem n6a : ¬ (6 : Int32) < 0 := by decide
theorem vpi6x : vp_in 0 6 ∧ vp_in 1 6 ∧ vp_in 2 6 ∧ vp_in 3 6 ∧ vp_in 4 6 ∧ vp_in 5 6 := ⟨vpiM (by decide) (by decide), vpiM (by decide) (by decide), vpiM (by decide) (by decide), vpiM (by decide) (by decide), vpiM (by decide) (by decide), vpiM (by decide) (by decide)⟩
theorem n5e : (5 : Int32).toNatClampNeg = 5 := rfl
theorem n5a : ¬ (5 : Int32) < 0 := by decide
theorem vpi5x : vp_in 0 5 ∧ vp_in 1 5 ∧ vp_in 2 5 ∧ vp_in 3 5 ∧ vp_in 4 5 := ⟨vpiM (by decide) (by decide), vpiM (by decide) (by decide), vpiM (by decide) (by decide), vpiM (by decide) (by decide), vpiM (by decide) (by decide)⟩
theorem vpi5n {a : Int32} (h0 : ¬ a < 0) (h1 : ¬ 4 < a) : vp_in a 5 := vpiM (i32_0 h0) (by
  have h := i32_nlt h1
  have e : (4 : Int32).toInt = 4 := rfl
  omega)
set_option maxHeartbeats 8000000 in
theorem lX3_pileNow_5 {a c n : Int32} (hM : MM g w0 y nM kd w) (hP : PN g w y n) (k0 : ¬ a < 0) (k1 : ¬ 7 < a) (c0 : ¬ c < 0) (c1 : ¬ 5 < c) (hQ : ∀ (v : Int32) w', ext g w w' → Q (.inl (some (.int v))) w') : ∀ (d : Nat) (i3 i4 : Int32) (o5 o6 : Option Value) (w' : Hw) (k m : Nat), ¬ i4 < 0 → ext g w w' → n.toInt - i4.toInt ≤ (d : Int) → i4.toInt ≤ n.toInt → (k : Int) ≤ i4.toInt → (m : Int) ≤ 6 * i4.toInt → WP (MX3_pileNow g) Q (5, [some (.ref y), some (.int a), some (.int c), some (.int i3), some (.int i4), o5, o6], [], w', k, m) := by
  have hnb := hP.bd
  intro d
  induction d with
  | zero =>
    intro i3 i4 o5 o6 w' k m z0 hk hm hi km mm
    rw [eX3_pileNow_5]
    repeat' first
      | with_reducible assumption
      | with_reducible refine And.intro ?_ ?_
      | with_reducible exact (ic_z (by assumption) (by assumption)).elim
      | with_reducible refine sSizeY (hP.ext (by first | assumption | exact ext.rf | exact ext_up2 ext.rf (by assumption) | exact ext_up3 (by assumption) (by assumption) | exact ext_up3 (ext_up2 ext.rf (by assumption)) (by assumption))) (by first | assumption | exact isY.s | exact isY.fr (by assumption) (by assumption)) ?_
      | with_reducible refine sGetP (hP.ext (by first | assumption | exact ext.rf | exact ext_up2 ext.rf (by assumption) | exact ext_up3 (by assumption) (by assumption) | exact ext_up3 (ext_up2 ext.rf (by assumption)) (by assumption))) (by first | assumption | exact isY.s | exact isY.fr (by assumption) (by assumption)) (by assumption) (by assumption) (fun _ _ => ?_)
      | with_reducible refine sX3_isAhead (hM.ext' (by first | assumption | exact ext.rf | exact ext_up2 ext.rf (by assumption) | exact ext_up3 (by assumption) (by assumption) | exact ext_up3 (ext_up2 ext.rf (by assumption)) (by assumption))) (hP.ext (by first | assumption | exact ext.rf | exact ext_up2 ext.rf (by assumption) | exact ext_up3 (by assumption) (by assumption) | exact ext_up3 (ext_up2 ext.rf (by assumption)) (by assumption))) (by assumption) (by assumption) (fun _ => ?_)
      | with_reducible refine go_Y (hM.ext' (by first | assumption | exact ext.rf | exact ext_up2 ext.rf (by assumption) | exact ext_up3 (by assumption) (by assumption) | exact ext_up3 (ext_up2 ext.rf (by assumption)) (by assumption))) (fun _ _ _ _ _ _ => ?_)
      | with_reducible exact gtP (hM.ext' (by first | assumption | exact ext.rf | exact ext_up2 ext.rf (by assumption) | exact ext_up3 (by assumption) (by assumption) | exact ext_up3 (ext_up2 ext.rf (by assumption)) (by assumption))) (by first | assumption | exact isY.s | exact isY.fr (by assumption) (by assumption))
      | with_reducible refine gl_M (hM.ext' (by first | assumption | exact ext.rf | exact ext_up2 ext.rf (by assumption) | exact ext_up3 (by assumption) (by assumption) | exact ext_up3 (ext_up2 ext.rf (by assumption)) (by assumption))) ?_
      | with_reducible exact vpi8n k0 k1
      | with_reducible exact vpi6n c0 c1
      | with_reducible exact vpi6x.1
      | with_reducible exact vpi6x.2.1
      | with_reducible exact vpi6x.2.2.1
      | with_reducible exact vpi6x.2.2.2.1
      | with_reducible exact vpi6x.2.2.2.2.1
      | with_reducible exact vpi6x.2.2.2.2.2
      | with_reducible exact isRow.ca (by first | assumption | exact isRow.ext (by assumption) (ext_up2 ext.rf (by assumption)))
      | with_reducible refine sX3_validV (by first | assumption | exact isRow.ext (by assumption) (ext_up2 ext.rf (by assumption))) (fun _ => ?_)
      | with_reducible refine sX3_fixedV (by first | assumption | exact isRow.ext (by assumption) (ext_up2 ext.rf (by assumption))) (fun _ => ?_)
      | with_reducible refine sX3_smallV (by first | assumption | exact isRow.ext (by assumption) (ext_up2 ext.rf (by assumption))) (fun _ => ?_)
      | with_reducible refine sX3_one (fun _ => ?_)
      | with_reducible exact hQ _ _ (by first | assumption | exact ext.rf | exact ext_up2 ext.rf (by assumption) | exact ext_up3 (by assumption) (by assumption) | exact ext_up3 (ext_up2 ext.rf (by assumption)) (by assumption))
      | with_reducible exact n6a
      | with_reducible exact pz1 (by assumption) (by assumption) hnb
      | with_reducible exact pz6 (by assumption) (by assumption) hnb
      | with_reducible exact pz1e (by assumption) hnb (by assumption) (by assumption)
      | with_reducible exact pz6e (by assumption) hnb (by assumption) (by assumption)
      | simp only [eX3_pileNow_0, eX3_pileNow_1, eX3_pileNow_2, eX3_pileNow_3, eX3_pileNow_7, eX3_pileNow_7N, eX3_pileNow_8, eX3_pileNow_11, eX3_pileNow_14, eX3_pileNow_17, eX3_pileNow_17N, eX3_pileNow_18, eX3_pileNow_21, eX3_pileNow_23, eX3_pileNow_26N, eX3_pileNow_26R, eX3_pileNow_29, eX3_pileNow_29N, eX3_pileNow_31, eX3_pileNow_33, eX3_pileNow_35, eX3_pileNow_35R, eX3_pileNow_36, eX3_pileNow_37, eX3_pileNow_38, eX3_pileNow_39, eX3_pileNow_39R, eX3_pileNow_40, eX3_pileNow_41, eX3_pileNow_41N, eX3_pileNow_43, eX3_pileNow_43N, eX3_pileNow_44, eX3_pileNow_47, eX3_pileNow_48, eX3_pileNow_49, eX3_pileNow_50R, eX3_pileNow_50N, eX3_pileNow_53, eX3_pileNow_54, eX3_pileNow_54R, eX3_pileNow_55, eX3_pileNow_56, eX3_pileNow_56N, eX3_pileNow_58, eX3_pileNow_58N, eX3_pileNow_59, eX3_pileNow_62, eX3_pileNow_63, eX3_pileNow_64, eX3_pileNow_65R, eX3_pileNow_65N, eX3_pileNow_68, eX3_pileNow_69, eX3_pileNow_69R, eX3_pileNow_70, eX3_pileNow_71, eX3_pileNow_71N, eX3_pileNow_73R, eX3_pileNow_73N, eX3_pileNow_76, eX3_pileNow_77, eX3_pileNow_77R, eX3_pileNow_78, eX3_pileNow_79, eX3_pileNow_79N, eX3_pileNow_81R, eX3_pileNow_81N, eX3_pileNow_84, eX3_pileNow_85, eX3_pileNow_85R, eX3_pileNow_86, eX3_pileNow_87, eX3_pileNow_87N, eX3_pileNow_88, eX3_pileNow_90, eX3_pileNow_93, eX3_pileNow_94, eX3_pileNow_94N, eX3_pileNow_96, eX3_pileNow_97, eX3_pileNow_97N, eX3_pileNow_99, eX3_pileNow_100, eX3_pileNow_101, eX3_pileNow_104, eX3_pileNow_105, eX3_pileNow_106, eX3_pileNow_109, eX3_pileNow_112, eX3_pileNow_113, ite_le, n45, n54, true_or, or_true, false_or, or_false, false_and, and_false, kx_l, kx_r, go_s, gl_s, gi_s, gb_s2, gb_s3, gq_s, wt_nil, wt_int, wt_long, wt_ref, wt_null, nl_int, nl_long, nl_ref, nl_null, nl_none, rf_n, rf_s, rf_st, tl_s, tl_n, g0, gS, ex1, nb_b, nb_0, nb_1, nf_i, nf_l, nf_ra, nf_ro, nf_na, nf_no, nf_b0, nf_z0, t45_4, t45_5, true_and, and_true, List.set_cons_zero, List.set_cons_succ, List.length_cons, List.length_nil, rd_s, upw_s, ne_eq, not_false_eq_true, Nat.zero_add, Nat.add_zero, if_true, if_false, eq_self, m10, n6e, upw2q]
      | split
      | with_reducible intro _
      | omega
  | succ d ih =>
    intro i3 i4 o5 o6 w' k m z0 hk hm hi km mm
    rw [eX3_pileNow_5]
    repeat' first
      | with_reducible assumption
      | with_reducible refine And.intro ?_ ?_
      | with_reducible exact ih _ _ _ _ _ _ _ (ic_p (by assumption) (by assumption)) (by first | assumption | exact ext.rf | exact ext_up2 ext.rf (by assumption) | exact ext_up3 (by assumption) (by assumption) | exact ext_up3 (ext_up2 ext.rf (by assumption)) (by assumption)) (ic_s (by assumption) (by assumption)) (pz_n (by assumption)) (by rw [i32_s (by assumption)]; omega) (by rw [i32_s (by assumption)]; omega)
      | with_reducible refine sSizeY (hP.ext (by first | assumption | exact ext.rf | exact ext_up2 ext.rf (by assumption) | exact ext_up3 (by assumption) (by assumption) | exact ext_up3 (ext_up2 ext.rf (by assumption)) (by assumption))) (by first | assumption | exact isY.s | exact isY.fr (by assumption) (by assumption)) ?_
      | with_reducible refine sGetP (hP.ext (by first | assumption | exact ext.rf | exact ext_up2 ext.rf (by assumption) | exact ext_up3 (by assumption) (by assumption) | exact ext_up3 (ext_up2 ext.rf (by assumption)) (by assumption))) (by first | assumption | exact isY.s | exact isY.fr (by assumption) (by assumption)) (by assumption) (by assumption) (fun _ _ => ?_)
      | with_reducible refine sX3_isAhead (hM.ext' (by first | assumption | exact ext.rf | exact ext_up2 ext.rf (by assumption) | exact ext_up3 (by assumption) (by assumption) | exact ext_up3 (ext_up2 ext.rf (by assumption)) (by assumption))) (hP.ext (by first | assumption | exact ext.rf | exact ext_up2 ext.rf (by assumption) | exact ext_up3 (by assumption) (by assumption) | exact ext_up3 (ext_up2 ext.rf (by assumption)) (by assumption))) (by assumption) (by assumption) (fun _ => ?_)
      | with_reducible refine go_Y (hM.ext' (by first | assumption | exact ext.rf | exact ext_up2 ext.rf (by assumption) | exact ext_up3 (by assumption) (by assumption) | exact ext_up3 (ext_up2 ext.rf (by assumption)) (by assumption))) (fun _ _ _ _ _ _ => ?_)
      | with_reducible exact gtP (hM.ext' (by first | assumption | exact ext.rf | exact ext_up2 ext.rf (by assumption) | exact ext_up3 (by assumption) (by assumption) | exact ext_up3 (ext_up2 ext.rf (by assumption)) (by assumption))) (by first | assumption | exact isY.s | exact isY.fr (by assumption) (by assumption))
      | with_reducible refine gl_M (hM.ext' (by first | assumption | exact ext.rf | exact ext_up2 ext.rf (by assumption) | exact ext_up3 (by assumption) (by assumption) | exact ext_up3 (ext_up2 ext.rf (by assumption)) (by assumption))) ?_
      | with_reducible exact vpi8n k0 k1
      | with_reducible exact vpi6n c0 c1
      | with_reducible exact vpi6x.1
      | with_reducible exact vpi6x.2.1
      | with_reducible exact vpi6x.2.2.1
      | with_reducible exact vpi6x.2.2.2.1
      | with_reducible exact vpi6x.2.2.2.2.1
      | with_reducible exact vpi6x.2.2.2.2.2
      | with_reducible exact isRow.ca (by first | assumption | exact isRow.ext (by assumption) (ext_up2 ext.rf (by assumption)))
      | with_reducible refine sX3_validV (by first | assumption | exact isRow.ext (by assumption) (ext_up2 ext.rf (by assumption))) (fun _ => ?_)
      | with_reducible refine sX3_fixedV (by first | assumption | exact isRow.ext (by assumption) (ext_up2 ext.rf (by assumption))) (fun _ => ?_)
      | with_reducible refine sX3_smallV (by first | assumption | exact isRow.ext (by assumption) (ext_up2 ext.rf (by assumption))) (fun _ => ?_)
      | with_reducible refine sX3_one (fun _ => ?_)
      | with_reducible exact hQ _ _ (by first | assumption | exact ext.rf | exact ext_up2 ext.rf (by assumption) | exact ext_up3 (by assumption) (by assumption) | exact ext_up3 (ext_up2 ext.rf (by assumption)) (by assumption))
      | with_reducible exact n6a
      | with_reducible exact pz1 (by assumption) (by assumption) hnb
      | with_reducible exact pz6 (by assumption) (by assumption) hnb
      | with_reducible exact pz1e (by assumption) hnb (by assumption) (by assumption)
      | with_reducible exact pz6e (by assumption) hnb (by assumption) (by assumption)
      | simp only [eX3_pileNow_0, eX3_pileNow_1, eX3_pileNow_2, eX3_pileNow_3, eX3_pileNow_7, eX3_pileNow_7N, eX3_pileNow_8, eX3_pileNow_11, eX3_pileNow_14, eX3_pileNow_17, eX3_pileNow_17N, eX3_pileNow_18, eX3_pileNow_21, eX3_pileNow_23, eX3_pileNow_26N, eX3_pileNow_26R, eX3_pileNow_29, eX3_pileNow_29N, eX3_pileNow_31, eX3_pileNow_33, eX3_pileNow_35, eX3_pileNow_35R, eX3_pileNow_36, eX3_pileNow_37, eX3_pileNow_38, eX3_pileNow_39, eX3_pileNow_39R, eX3_pileNow_40, eX3_pileNow_41, eX3_pileNow_41N, eX3_pileNow_43, eX3_pileNow_43N, eX3_pileNow_44, eX3_pileNow_47, eX3_pileNow_48, eX3_pileNow_49, eX3_pileNow_50R, eX3_pileNow_50N, eX3_pileNow_53, eX3_pileNow_54, eX3_pileNow_54R, eX3_pileNow_55, eX3_pileNow_56, eX3_pileNow_56N, eX3_pileNow_58, eX3_pileNow_58N, eX3_pileNow_59, eX3_pileNow_62, eX3_pileNow_63, eX3_pileNow_64, eX3_pileNow_65R, eX3_pileNow_65N, eX3_pileNow_68, eX3_pileNow_69, eX3_pileNow_69R, eX3_pileNow_70, eX3_pileNow_71, eX3_pileNow_71N, eX3_pileNow_73R, eX3_pileNow_73N, eX3_pileNow_76, eX3_pileNow_77, eX3_pileNow_77R, eX3_pileNow_78, eX3_pileNow_79, eX3_pileNow_79N, eX3_pileNow_81R, eX3_pileNow_81N, eX3_pileNow_84, eX3_pileNow_85, eX3_pileNow_85R, eX3_pileNow_86, eX3_pileNow_87, eX3_pileNow_87N, eX3_pileNow_88, eX3_pileNow_90, eX3_pileNow_93, eX3_pileNow_94, eX3_pileNow_94N, eX3_pileNow_96, eX3_pileNow_97, eX3_pileNow_97N, eX3_pileNow_99, eX3_pileNow_100, eX3_pileNow_101, eX3_pileNow_104, eX3_pileNow_105, eX3_pileNow_106, eX3_pileNow_109, eX3_pileNow_112, eX3_pileNow_113, ite_le, n45, n54, true_or, or_true, false_or, or_false, false_and, and_false, kx_l, kx_r, go_s, gl_s, gi_s, gb_s2, gb_s3, gq_s, wt_nil, wt_int, wt_long, wt_ref, wt_null, nl_int, nl_long, nl_ref, nl_null, nl_none, rf_n, rf_s, rf_st, tl_s, tl_n, g0, gS, ex1, nb_b, nb_0, nb_1, nf_i, nf_l, nf_ra, nf_ro, nf_na, nf_no, nf_b0, nf_z0, t45_4, t45_5, true_and, and_true, List.set_cons_zero, List.set_cons_succ, List.length_cons, List.length_nil, rd_s, upw_s, ne_eq, not_false_eq_true, Nat.zero_add, Nat.add_zero, if_true, if_false, eq_self, m10, n6e, upw2q]
      | split
      | with_reducible intro _
      | omega
set_option maxHeartbeats 4000000 in
theorem sX3_pileNow {a c n : Int32} (hM : MM g w0 y nM kd w) (hP : PN g w y n) (k0 : ¬ a < 0) (k1 : ¬ 7 < a) (c0 : ¬ c < 0) (c1 : ¬ 5 < c) (hQ : ∀ (v : Int32) w', ext g w w' → Q (.inl (some (.int v))) w') : WP (MX3_pileNow g) Q (0, [some (.ref y), some (.int a), some (.int c), none, none, none, none], [], w, 0, 0) := by
  have hnb := hP.bd
  repeat' first
    | with_reducible assumption
    | with_reducible refine And.intro ?_ ?_
    | with_reducible exact lX3_pileNow_5 hM hP k0 k1 c0 c1 hQ 70 _ _ _ _ _ _ _ (by decide) ext.rf hP.m (by have z : (0 : Int32).toInt = 0 := rfl; omega) (by decide) (by decide)
    | simp only [eX3_pileNow_0, eX3_pileNow_1, eX3_pileNow_2, eX3_pileNow_3, eX3_pileNow_7, eX3_pileNow_7N, eX3_pileNow_8, eX3_pileNow_11, eX3_pileNow_14, eX3_pileNow_17, eX3_pileNow_17N, eX3_pileNow_18, eX3_pileNow_21, eX3_pileNow_23, eX3_pileNow_26N, eX3_pileNow_26R, eX3_pileNow_29, eX3_pileNow_29N, eX3_pileNow_31, eX3_pileNow_33, eX3_pileNow_35, eX3_pileNow_35R, eX3_pileNow_36, eX3_pileNow_37, eX3_pileNow_38, eX3_pileNow_39, eX3_pileNow_39R, eX3_pileNow_40, eX3_pileNow_41, eX3_pileNow_41N, eX3_pileNow_43, eX3_pileNow_43N, eX3_pileNow_44, eX3_pileNow_47, eX3_pileNow_48, eX3_pileNow_49, eX3_pileNow_50R, eX3_pileNow_50N, eX3_pileNow_53, eX3_pileNow_54, eX3_pileNow_54R, eX3_pileNow_55, eX3_pileNow_56, eX3_pileNow_56N, eX3_pileNow_58, eX3_pileNow_58N, eX3_pileNow_59, eX3_pileNow_62, eX3_pileNow_63, eX3_pileNow_64, eX3_pileNow_65R, eX3_pileNow_65N, eX3_pileNow_68, eX3_pileNow_69, eX3_pileNow_69R, eX3_pileNow_70, eX3_pileNow_71, eX3_pileNow_71N, eX3_pileNow_73R, eX3_pileNow_73N, eX3_pileNow_76, eX3_pileNow_77, eX3_pileNow_77R, eX3_pileNow_78, eX3_pileNow_79, eX3_pileNow_79N, eX3_pileNow_81R, eX3_pileNow_81N, eX3_pileNow_84, eX3_pileNow_85, eX3_pileNow_85R, eX3_pileNow_86, eX3_pileNow_87, eX3_pileNow_87N, eX3_pileNow_88, eX3_pileNow_90, eX3_pileNow_93, eX3_pileNow_94, eX3_pileNow_94N, eX3_pileNow_96, eX3_pileNow_97, eX3_pileNow_97N, eX3_pileNow_99, eX3_pileNow_100, eX3_pileNow_101, eX3_pileNow_104, eX3_pileNow_105, eX3_pileNow_106, eX3_pileNow_109, eX3_pileNow_112, eX3_pileNow_113, ite_le, n45, n54, true_or, or_true, false_or, or_false, false_and, and_false, kx_l, kx_r, go_s, gl_s, gi_s, gb_s2, gb_s3, gq_s, wt_nil, wt_int, wt_long, wt_ref, wt_null, nl_int, nl_long, nl_ref, nl_null, nl_none, rf_n, rf_s, rf_st, tl_s, tl_n, g0, gS, ex1, nb_b, nb_0, nb_1, nf_i, nf_l, nf_ra, nf_ro, nf_na, nf_no, nf_b0, nf_z0, t45_4, t45_5, true_and, and_true, List.set_cons_zero, List.set_cons_succ, List.length_cons, List.length_nil, rd_s, upw_s, ne_eq, not_false_eq_true, Nat.zero_add, Nat.add_zero, if_true, if_false, eq_self, m10]
    | split
    | with_reducible intro _
    | omega
theorem sX3_pileNowM {a c : Int32} (hM : MM g w0 y nM kd w) (k0 : ¬ a < 0) (k1 : ¬ 7 < a) (c0 : ¬ c < 0) (c1 : ¬ 5 < c) (hQ : ∀ (v : Int32) w', ext g w w' → Q (.inl (some (.int v))) w') : WP (MX3_pileNow g) Q (0, [some (.ref y), some (.int a), some (.int c), none, none, none, none], [], w, 0, 0) := by
  obtain ⟨n, hP⟩ := PN.ofM hM
  exact sX3_pileNow hM hP k0 k1 c0 c1 hQ
end
end
/-! 69p.pil7.lean.txt -/
section
section
variable {g : RO} {Q : Ot → Hw → Prop} {w0 w : Hw}
variable {y nM : Nat} {kd : Int32}
set_option maxHeartbeats 4000000 in
theorem lX3_houseNow_10 {a n mc : Int32} {L D2 c2 q : Nat} {h2 : Nat → Option Nat} (hM : MM g w0 y nM kd w) (k0 : ¬ a < 0) (k1 : ¬ 4 < a) (hL : w L = some (.inr (3, [.int mc, .ref D2, .int n]))) (hl : LL g w L D2 c2 n h2) (hr : ∀ i b, h2 i = some b → isRow w b) (hn : n.toInt ≤ 12) (hq : rd g w q = none) (hQ : ∀ (v : Int32) w', ext g w w' → Q (.inl (some (.int v))) w') : ∀ (d : Nat) (i2 c lr : Int32) (o4 : Option Value) (k m : Nat), n.toInt - c.toInt ≤ (d : Int) → 0 ≤ c.toInt → c.toInt ≤ n.toInt → k ≤ 1 → m ≤ 4 → WP (MX3_houseNow g) Q (10, [some (.ref y), some (.int a), some (.int i2), some (.ref q), o4], [], upw w q (.inr (2, [.int c, .int lr, .int mc, .ref L])), k, m) := by
  have hLq : ∀ o, upw w q o L = some (.inr (3, [.int mc, .ref D2, .int n])) := fun o => (ext_up2 ext.rf hq).1 _ _ hL
  intro d
  induction d with
  | zero =>
    intro i2 c lr o4 k m hm c0 c1 hk hs
    rw [eX3_houseNow_10]
    repeat' first
      | with_reducible assumption
      | with_reducible refine And.intro ?_ ?_
      | with_reducible exact (itz (by assumption) (by assumption) (by assumption)).elim
      | with_reducible refine sJx35411_hasNext_aae02 (cap := 0) (upw_s _ _ _) (hLq _) (fun _ => ?_) (fun _ => ?_)
      | with_reducible refine sJx35411_next_0502b (upw_s _ _ _) (hLq _) (hl.nq hq _).rD (by assumption) (itl (by assumption) (by assumption)) hl.nc hl.c15 (fun _ => ?_) (fun _ _ => ?_)
      | with_reducible refine go_Y (hM.ext' (by first | assumption | exact ext.rf | exact ext_up2 ext.rf (by assumption) | exact ext_up3 (by assumption) (by assumption) | exact ext_up3 (ext_up2 ext.rf (by assumption)) (by assumption))) (fun _ _ _ _ _ _ => ?_)
      | with_reducible exact gtP (hM.ext' (by first | assumption | exact ext.rf | exact ext_up2 ext.rf (by assumption) | exact ext_up3 (by assumption) (by assumption) | exact ext_up3 (ext_up2 ext.rf (by assumption)) (by assumption))) (by first | assumption | exact isY.s | exact isY.fr (by assumption) (by assumption))
      | with_reducible exact isRow.ca ((hr _ _ (by assumption)).ext (ext_up2 ext.rf hq))
      | with_reducible refine sX3_one (fun _ => ?_)
      | with_reducible refine sSizeM (hM.ext' (by first | assumption | exact ext.rf | exact ext_up2 ext.rf (by assumption) | exact ext_up3 (by assumption) (by assumption) | exact ext_up3 (ext_up2 ext.rf (by assumption)) (by assumption))) (by first | assumption | exact isY.s | exact isY.fr (by assumption) (by assumption)) (fun _ _ => ?_)
      | with_reducible exact hQ _ _ (by first | assumption | exact ext.rf | exact ext_up2 ext.rf (by assumption) | exact ext_up3 (by assumption) (by assumption) | exact ext_up3 (ext_up2 ext.rf (by assumption)) (by assumption))
      | with_reducible exact n5a
      | with_reducible exact vpi5n k0 k1
      | with_reducible exact vpi5x.1
      | with_reducible exact vpi5x.2.1
      | with_reducible exact vpi5x.2.2.1
      | with_reducible exact vpi5x.2.2.2.1
      | with_reducible exact vpi5x.2.2.2.2
      | simp only [eX3_houseNow_0, eX3_houseNow_1, eX3_houseNow_2, eX3_houseNow_2N, eX3_houseNow_3, eX3_houseNow_6, eX3_houseNow_9, eX3_houseNow_9N, eX3_houseNow_11, eX3_houseNow_16, eX3_houseNow_19, eX3_houseNow_19N, eX3_houseNow_20, eX3_houseNow_25N, eX3_houseNow_25R, eX3_houseNow_28, eX3_houseNow_28N, eX3_houseNow_30, eX3_houseNow_31, eX3_houseNow_31N, eX3_houseNow_33R, eX3_houseNow_33N, eX3_houseNow_36, eX3_houseNow_37, eX3_houseNow_40, eX3_houseNow_41, eX3_houseNow_44, eX3_houseNow_45, eX3_houseNow_46, eX3_houseNow_49, eX3_houseNow_50, eX3_houseNow_52, eX3_houseNow_52R, eX3_houseNow_53, eX3_houseNow_54, eX3_houseNow_55, eX3_houseNow_56, eX3_houseNow_56R, eX3_houseNow_57, eX3_houseNow_58, eX3_houseNow_58N, eX3_houseNow_59, eX3_houseNow_62, eX3_houseNow_65, eX3_houseNow_66, eX3_houseNow_66R, eX3_houseNow_67, eX3_houseNow_68, eX3_houseNow_68N, eX3_houseNow_69, eX3_houseNow_72, eX3_houseNow_73, eX3_houseNow_73R, eX3_houseNow_74, eX3_houseNow_75, eX3_houseNow_75N, eX3_houseNow_76, eX3_houseNow_79, eX3_houseNow_80, eX3_houseNow_80R, eX3_houseNow_81, eX3_houseNow_82, eX3_houseNow_82N, eX3_houseNow_83, eX3_houseNow_86, eX3_houseNow_87, eX3_houseNow_87N, eX3_houseNow_88, eX3_houseNow_88N, eX3_houseNow_89, eX3_houseNow_90, eX3_houseNow_91, ite_le, n45, n54, true_or, or_true, false_or, or_false, false_and, and_false, kx_l, kx_r, go_s, gl_s, gi_s, gb_s2, gb_s3, gq_s, wt_nil, wt_int, wt_long, wt_ref, wt_null, nl_int, nl_long, nl_ref, nl_null, nl_none, rf_n, rf_s, rf_st, tl_s, tl_n, g0, gS, ex1, nb_b, nb_0, nb_1, nf_i, nf_l, nf_ra, nf_ro, nf_na, nf_no, nf_b0, nf_z0, t45_4, t45_5, true_and, and_true, List.set_cons_zero, List.set_cons_succ, List.length_cons, List.length_nil, rd_s, upw_s, ne_eq, not_false_eq_true, Nat.zero_add, Nat.add_zero, if_true, if_false, eq_self, m10, upw2q, n5e, gi_s]
      | split
      | with_reducible intro _
      | omega
  | succ d ih =>
    intro i2 c lr o4 k m hm c0 c1 hk hs
    rw [eX3_houseNow_10]
    repeat' first
      | with_reducible assumption
      | with_reducible refine And.intro ?_ ?_
      | with_reducible exact ih _ _ _ _ _ _ (by have e := its (n := n) (by assumption) (by assumption) (by assumption) (by omega); omega) (by have e := its (n := n) (by assumption) (by assumption) (by assumption) (by omega); omega) (by have e := its (n := n) (by assumption) (by assumption) (by assumption) (by omega); omega) (by first | assumption | omega) (by first | assumption | omega)
      | with_reducible refine sJx35411_hasNext_aae02 (cap := 0) (upw_s _ _ _) (hLq _) (fun _ => ?_) (fun _ => ?_)
      | with_reducible refine sJx35411_next_0502b (upw_s _ _ _) (hLq _) (hl.nq hq _).rD (by assumption) (itl (by assumption) (by assumption)) hl.nc hl.c15 (fun _ => ?_) (fun _ _ => ?_)
      | with_reducible refine go_Y (hM.ext' (by first | assumption | exact ext.rf | exact ext_up2 ext.rf (by assumption) | exact ext_up3 (by assumption) (by assumption) | exact ext_up3 (ext_up2 ext.rf (by assumption)) (by assumption))) (fun _ _ _ _ _ _ => ?_)
      | with_reducible exact gtP (hM.ext' (by first | assumption | exact ext.rf | exact ext_up2 ext.rf (by assumption) | exact ext_up3 (by assumption) (by assumption) | exact ext_up3 (ext_up2 ext.rf (by assumption)) (by assumption))) (by first | assumption | exact isY.s | exact isY.fr (by assumption) (by assumption))
      | with_reducible exact isRow.ca ((hr _ _ (by assumption)).ext (ext_up2 ext.rf hq))
      | with_reducible refine sX3_one (fun _ => ?_)
      | with_reducible refine sSizeM (hM.ext' (by first | assumption | exact ext.rf | exact ext_up2 ext.rf (by assumption) | exact ext_up3 (by assumption) (by assumption) | exact ext_up3 (ext_up2 ext.rf (by assumption)) (by assumption))) (by first | assumption | exact isY.s | exact isY.fr (by assumption) (by assumption)) (fun _ _ => ?_)
      | with_reducible exact hQ _ _ (by first | assumption | exact ext.rf | exact ext_up2 ext.rf (by assumption) | exact ext_up3 (by assumption) (by assumption) | exact ext_up3 (ext_up2 ext.rf (by assumption)) (by assumption))
      | with_reducible exact n5a
      | with_reducible exact vpi5n k0 k1
      | with_reducible exact vpi5x.1
      | with_reducible exact vpi5x.2.1
      | with_reducible exact vpi5x.2.2.1
      | with_reducible exact vpi5x.2.2.2.1
      | with_reducible exact vpi5x.2.2.2.2
      | simp only [eX3_houseNow_0, eX3_houseNow_1, eX3_houseNow_2, eX3_houseNow_2N, eX3_houseNow_3, eX3_houseNow_6, eX3_houseNow_9, eX3_houseNow_9N, eX3_houseNow_11, eX3_houseNow_16, eX3_houseNow_19, eX3_houseNow_19N, eX3_houseNow_20, eX3_houseNow_25N, eX3_houseNow_25R, eX3_houseNow_28, eX3_houseNow_28N, eX3_houseNow_30, eX3_houseNow_31, eX3_houseNow_31N, eX3_houseNow_33R, eX3_houseNow_33N, eX3_houseNow_36, eX3_houseNow_37, eX3_houseNow_40, eX3_houseNow_41, eX3_houseNow_44, eX3_houseNow_45, eX3_houseNow_46, eX3_houseNow_49, eX3_houseNow_50, eX3_houseNow_52, eX3_houseNow_52R, eX3_houseNow_53, eX3_houseNow_54, eX3_houseNow_55, eX3_houseNow_56, eX3_houseNow_56R, eX3_houseNow_57, eX3_houseNow_58, eX3_houseNow_58N, eX3_houseNow_59, eX3_houseNow_62, eX3_houseNow_65, eX3_houseNow_66, eX3_houseNow_66R, eX3_houseNow_67, eX3_houseNow_68, eX3_houseNow_68N, eX3_houseNow_69, eX3_houseNow_72, eX3_houseNow_73, eX3_houseNow_73R, eX3_houseNow_74, eX3_houseNow_75, eX3_houseNow_75N, eX3_houseNow_76, eX3_houseNow_79, eX3_houseNow_80, eX3_houseNow_80R, eX3_houseNow_81, eX3_houseNow_82, eX3_houseNow_82N, eX3_houseNow_83, eX3_houseNow_86, eX3_houseNow_87, eX3_houseNow_87N, eX3_houseNow_88, eX3_houseNow_88N, eX3_houseNow_89, eX3_houseNow_90, eX3_houseNow_91, ite_le, n45, n54, true_or, or_true, false_or, or_false, false_and, and_false, kx_l, kx_r, go_s, gl_s, gi_s, gb_s2, gb_s3, gq_s, wt_nil, wt_int, wt_long, wt_ref, wt_null, nl_int, nl_long, nl_ref, nl_null, nl_none, rf_n, rf_s, rf_st, tl_s, tl_n, g0, gS, ex1, nb_b, nb_0, nb_1, nf_i, nf_l, nf_ra, nf_ro, nf_na, nf_no, nf_b0, nf_z0, t45_4, t45_5, true_and, and_true, List.set_cons_zero, List.set_cons_succ, List.length_cons, List.length_nil, rd_s, upw_s, ne_eq, not_false_eq_true, Nat.zero_add, Nat.add_zero, if_true, if_false, eq_self, m10, upw2q, n5e, gi_s]
      | split
      | with_reducible intro _
      | omega
set_option maxHeartbeats 4000000 in
theorem sX3_houseNow {a : Int32} (hM : MM g w0 y nM kd w) (k0 : ¬ a < 0) (k1 : ¬ 4 < a) (hQ : ∀ (v : Int32) w', ext g w w' → Q (.inl (some (.int v))) w') : WP (MX3_houseNow g) Q (0, [some (.ref y), some (.int a), none, none, none], [], w, 0, 0) := by
  obtain ⟨cL0, pL0, D1, D2, c1, c2, th, rf, md, n, f, h1, h2, a1, a2, a3, a4, a5, a6, a7, a8, a9, b1⟩ := hM.1
  repeat' first
    | with_reducible assumption
    | with_reducible refine And.intro ?_ ?_
    | with_reducible refine go_YE a1 ?_
    | with_reducible exact a3.gt
    | with_reducible refine sJx4a65c_iterator_32c93 a3 (fun _ _ _ _ => ?_)
    | with_reducible exact lX3_houseNow_10 hM k0 k1 (by assumption) a3 a4 (by decide) (by assumption) hQ 70 _ _ _ _ _ _ (by decide) (by decide) (by decide) (by first | decide | omega) (by first | decide | omega)
    | simp only [eX3_houseNow_0, eX3_houseNow_1, eX3_houseNow_2, eX3_houseNow_2N, eX3_houseNow_3, eX3_houseNow_6, eX3_houseNow_9, eX3_houseNow_9N, eX3_houseNow_11, eX3_houseNow_16, eX3_houseNow_19, eX3_houseNow_19N, eX3_houseNow_20, eX3_houseNow_25N, eX3_houseNow_25R, eX3_houseNow_28, eX3_houseNow_28N, eX3_houseNow_30, eX3_houseNow_31, eX3_houseNow_31N, eX3_houseNow_33R, eX3_houseNow_33N, eX3_houseNow_36, eX3_houseNow_37, eX3_houseNow_40, eX3_houseNow_41, eX3_houseNow_44, eX3_houseNow_45, eX3_houseNow_46, eX3_houseNow_49, eX3_houseNow_50, eX3_houseNow_52, eX3_houseNow_52R, eX3_houseNow_53, eX3_houseNow_54, eX3_houseNow_55, eX3_houseNow_56, eX3_houseNow_56R, eX3_houseNow_57, eX3_houseNow_58, eX3_houseNow_58N, eX3_houseNow_59, eX3_houseNow_62, eX3_houseNow_65, eX3_houseNow_66, eX3_houseNow_66R, eX3_houseNow_67, eX3_houseNow_68, eX3_houseNow_68N, eX3_houseNow_69, eX3_houseNow_72, eX3_houseNow_73, eX3_houseNow_73R, eX3_houseNow_74, eX3_houseNow_75, eX3_houseNow_75N, eX3_houseNow_76, eX3_houseNow_79, eX3_houseNow_80, eX3_houseNow_80R, eX3_houseNow_81, eX3_houseNow_82, eX3_houseNow_82N, eX3_houseNow_83, eX3_houseNow_86, eX3_houseNow_87, eX3_houseNow_87N, eX3_houseNow_88, eX3_houseNow_88N, eX3_houseNow_89, eX3_houseNow_90, eX3_houseNow_91, ite_le, n45, n54, true_or, or_true, false_or, or_false, false_and, and_false, kx_l, kx_r, go_s, gl_s, gi_s, gb_s2, gb_s3, gq_s, wt_nil, wt_int, wt_long, wt_ref, wt_null, nl_int, nl_long, nl_ref, nl_null, nl_none, rf_n, rf_s, rf_st, tl_s, tl_n, g0, gS, ex1, nb_b, nb_0, nb_1, nf_i, nf_l, nf_ra, nf_ro, nf_na, nf_no, nf_b0, nf_z0, t45_4, t45_5, true_and, and_true, List.set_cons_zero, List.set_cons_succ, List.length_cons, List.length_nil, rd_s, upw_s, ne_eq, not_false_eq_true, Nat.zero_add, Nat.add_zero, if_true, if_false, eq_self, m10]
    | split
    | with_reducible intro _
    | omega
end
end
/-! 69p.pil8.lean.txt -/
section
section
variable {g : RO} {Q : Ot → Hw → Prop} {w0 w : Hw}
variable {y nM : Nat} {kd : Int32}
set_option maxHeartbeats 4000000 in
theorem lX3_count_56 {a c e : Int32} {b : Nat} (hM : MM g w0 y nM kd w) (hC : CAt g w y a (some b)) (k0 : ¬ a < 0) (k1 : ¬ 5 < a) (k2 : ¬ 60 < e) (hQ : ∀ v : Int32, Q (.inl (some (.int v))) w) : ∀ (d : Nat) (i4 : Int32) (i5 : Int32) (k m : Nat), (e : Int32).toInt - i5.toInt ≤ (d : Int) → k ≤ 0 → m ≤ 0 → WP (MX3_count g) Q (56, [some (.ref y), some (.int a), some (.int c), some (.int e), some (.int i4), some (.int i5)], [], w, k, m) := by
  intro d
  induction d with
  | zero =>
    intro i4 i5 k m hm hk hs
    rw [eX3_count_56]
    repeat' first
      | with_reducible assumption
      | with_reducible refine And.intro ?_ ?_
      | with_reducible exact (ic_z (by assumption) (by assumption)).elim
      | with_reducible exact absurd (by assumption) n10'
      | with_reducible refine sX3_isNoNumber ?_ (fun _ _ => ?_)
      | with_reducible refine sX3_isNoCard ?_ (fun _ _ => ?_)
      | with_reducible refine sX3_isNoEnd ?_ (fun _ _ => ?_)
      | with_reducible refine sX3_isIn (fun _ _ => ?_) ?_
      | with_reducible refine sX3_start (by first | assumption | exact MMz.m (by assumption) | exact MM.fr (by first | assumption | exact MMz.m (by assumption)) (by assumption) | exact MM.ext' (by assumption) (by assumption) | exact (by assumption : ∀ f', MM g w0 y nM kd (upw _ nM (.inl (0, 8, .inr (.inl f'))))) _ | exact (by assumption : ∀ (th' rf' md' : Int32), MM g w0 y nM kd (upw _ y (.inr (7, [.int th', .ref nM, .ref _, .ref _, .int rf', .int kd, .int md'])))) _ _ _) (by decide) (fun _ _ _ => ?_) (fun _ _ => ?_)
      | with_reducible refine sX3_refuse (by assumption) (by decide) (fun _ => ?_) (fun _ _ => ?_)
      | with_reducible refine sX3_isBareM (by first | assumption | exact MMz.m (by assumption) | exact MM.fr (by first | assumption | exact MMz.m (by assumption)) (by assumption) | exact MM.ext' (by assumption) (by assumption) | exact (by assumption : ∀ f', MM g w0 y nM kd (upw _ nM (.inl (0, 8, .inr (.inl f'))))) _ | exact (by assumption : ∀ (th' rf' md' : Int32), MM g w0 y nM kd (upw _ y (.inr (7, [.int th', .ref nM, .ref _, .ref _, .int rf', .int kd, .int md'])))) _ _ _) (by assumption) (by first | assumption | exact lt65 (by assumption)) ?_ (fun _ _ => ?_)
      | with_reducible refine sX3_isNone (by first | assumption | exact MMz.m (by assumption) | exact MM.fr (by first | assumption | exact MMz.m (by assumption)) (by assumption) | exact MM.ext' (by assumption) (by assumption) | exact (by assumption : ∀ f', MM g w0 y nM kd (upw _ nM (.inl (0, 8, .inr (.inl f'))))) _ | exact (by assumption : ∀ (th' rf' md' : Int32), MM g w0 y nM kd (upw _ y (.inr (7, [.int th', .ref nM, .ref _, .ref _, .int rf', .int kd, .int md'])))) _ _ _) (fun _ _ => ?_) (fun _ _ _ _ _ _ => ?_)
      | with_reducible exact vpi8n (by assumption) (by assumption)
      | with_reducible exact vpi4n (by assumption) (by assumption)
      | with_reducible exact vpi4.1
      | with_reducible exact vpi4.2.1
      | with_reducible exact vpi4.2.2.1
      | with_reducible exact vpi4.2.2.2
      | with_reducible refine go_Y (by first | assumption | exact MMz.m (by assumption) | exact MM.fr (by first | assumption | exact MMz.m (by assumption)) (by assumption) | exact MM.ext' (by assumption) (by assumption) | exact (by assumption : ∀ f', MM g w0 y nM kd (upw _ nM (.inl (0, 8, .inr (.inl f'))))) _ | exact (by assumption : ∀ (th' rf' md' : Int32), MM g w0 y nM kd (upw _ y (.inr (7, [.int th', .ref nM, .ref _, .ref _, .int rf', .int kd, .int md'])))) _ _ _) (fun _ _ _ _ _ _ => ?_)
      | with_reducible refine go_Yw (by first | assumption | exact MMz.m (by assumption) | exact MM.fr (by first | assumption | exact MMz.m (by assumption)) (by assumption) | exact MM.ext' (by assumption) (by assumption) | exact (by assumption : ∀ f', MM g w0 y nM kd (upw _ nM (.inl (0, 8, .inr (.inl f'))))) _ | exact (by assumption : ∀ (th' rf' md' : Int32), MM g w0 y nM kd (upw _ y (.inr (7, [.int th', .ref nM, .ref _, .ref _, .int rf', .int kd, .int md'])))) _ _ _) (fun _ _ _ _ _ _ => ?_)
      | with_reducible refine gl_M (by first | assumption | exact MMz.m (by assumption) | exact MM.fr (by first | assumption | exact MMz.m (by assumption)) (by assumption) | exact MM.ext' (by assumption) (by assumption) | exact (by assumption : ∀ f', MM g w0 y nM kd (upw _ nM (.inl (0, 8, .inr (.inl f'))))) _ | exact (by assumption : ∀ (th' rf' md' : Int32), MM g w0 y nM kd (upw _ y (.inr (7, [.int th', .ref nM, .ref _, .ref _, .int rf', .int kd, .int md'])))) _ _ _) ?_
      | with_reducible refine gl_Mw (by first | assumption | exact MMz.m (by assumption) | exact MM.fr (by first | assumption | exact MMz.m (by assumption)) (by assumption) | exact MM.ext' (by assumption) (by assumption) | exact (by assumption : ∀ f', MM g w0 y nM kd (upw _ nM (.inl (0, 8, .inr (.inl f'))))) _ | exact (by assumption : ∀ (th' rf' md' : Int32), MM g w0 y nM kd (upw _ y (.inr (7, [.int th', .ref nM, .ref _, .ref _, .int rf', .int kd, .int md'])))) _ _ _) ?_
      | with_reducible exact gtC (by first | assumption | exact MMz.m (by assumption) | exact MM.fr (by first | assumption | exact MMz.m (by assumption)) (by assumption) | exact MM.ext' (by assumption) (by assumption) | exact (by assumption : ∀ f', MM g w0 y nM kd (upw _ nM (.inl (0, 8, .inr (.inl f'))))) _ | exact (by assumption : ∀ (th' rf' md' : Int32), MM g w0 y nM kd (upw _ y (.inr (7, [.int th', .ref nM, .ref _, .ref _, .int rf', .int kd, .int md'])))) _ _ _) (by first | assumption | exact isY.s | exact isY.fr (by assumption) (by assumption))
      | with_reducible exact gtP (by first | assumption | exact MMz.m (by assumption) | exact MM.fr (by first | assumption | exact MMz.m (by assumption)) (by assumption) | exact MM.ext' (by assumption) (by assumption) | exact (by assumption : ∀ f', MM g w0 y nM kd (upw _ nM (.inl (0, 8, .inr (.inl f'))))) _ | exact (by assumption : ∀ (th' rf' md' : Int32), MM g w0 y nM kd (upw _ y (.inr (7, [.int th', .ref nM, .ref _, .ref _, .int rf', .int kd, .int md'])))) _ _ _) (by first | assumption | exact isY.s | exact isY.fr (by assumption) (by assumption))
      | with_reducible refine gl_Row (by first | assumption | exact CAt.row (by assumption) | exact isRow.ext (by assumption) (by assumption)) (fun _ => ?_)
      | with_reducible exact isRow.ca (by first | assumption | exact CAt.row (by assumption) | exact isRow.ext (by assumption) (by assumption))
      | with_reducible refine sGetY (by first | assumption | exact CAt.fr (by assumption) (by assumption)) (by first | assumption | exact isY.s | exact isY.fr (by assumption) (by assumption)) (by assumption) (by first | assumption | exact lt65 (by assumption)) ?_
      | with_reducible exact n4g
      | with_reducible exact n4a
      | with_reducible exact n4b
      | with_reducible exact n4c
      | with_reducible refine sX3_high (fun _ => ?_)
      | with_reducible refine sX3_low (fun _ => ?_)
      | with_reducible refine sX3_one (fun _ => ?_)
      | with_reducible refine sX3_become (by first | assumption | exact MMz.m (by assumption) | exact MM.fr (by first | assumption | exact MMz.m (by assumption)) (by assumption) | exact MM.ext' (by assumption) (by assumption) | exact (by assumption : ∀ f', MM g w0 y nM kd (upw _ nM (.inl (0, 8, .inr (.inl f'))))) _ | exact (by assumption : ∀ (th' rf' md' : Int32), MM g w0 y nM kd (upw _ y (.inr (7, [.int th', .ref nM, .ref _, .ref _, .int rf', .int kd, .int md'])))) _ _ _) (by assumption) (by assumption) (fun _ _ _ => ?_)
      | with_reducible refine sX3_no (by first | assumption | exact MMz.m (by assumption) | exact MM.fr (by first | assumption | exact MMz.m (by assumption)) (by assumption) | exact MM.ext' (by assumption) (by assumption) | exact (by assumption : ∀ f', MM g w0 y nM kd (upw _ nM (.inl (0, 8, .inr (.inl f'))))) _ | exact (by assumption : ∀ (th' rf' md' : Int32), MM g w0 y nM kd (upw _ y (.inr (7, [.int th', .ref nM, .ref _, .ref _, .int rf', .int kd, .int md'])))) _ _ _) (fun _ _ => ?_)
      | with_reducible refine sX3_fixed (by first | assumption | exact CAt.row (by assumption) | exact isRow.ext (by assumption) (by assumption)) ?_ ?_
      | with_reducible refine sX3_small (by first | assumption | exact CAt.row (by assumption) | exact isRow.ext (by assumption) (by assumption)) ?_ ?_
      | with_reducible refine sX3_make (by first | assumption | exact MMz.m (by assumption) | exact MM.fr (by first | assumption | exact MMz.m (by assumption)) (by assumption) | exact MM.ext' (by assumption) (by assumption) | exact (by assumption : ∀ f', MM g w0 y nM kd (upw _ nM (.inl (0, 8, .inr (.inl f'))))) _ | exact (by assumption : ∀ (th' rf' md' : Int32), MM g w0 y nM kd (upw _ y (.inr (7, [.int th', .ref nM, .ref _, .ref _, .int rf', .int kd, .int md'])))) _ _ _) (by assumption) (by assumption) (fun _ _ _ => ?_)
      | with_reducible refine sX3_valid (by first | assumption | exact CAt.row (by assumption) | exact isRow.ext (by assumption) (by assumption)) ?_ ?_
      | with_reducible refine sX3_same (by first | assumption | exact CAt.row (by assumption) | exact isRow.ext (by assumption) (by assumption)) (by first | assumption | exact CAt.row (by assumption) | exact isRow.ext (by assumption) (by assumption)) (fun _ _ => ?_)
      | with_reducible refine sX3_aroundNow (by first | assumption | exact CAt.row (by assumption) | exact isRow.ext (by assumption) (by assumption)) (by assumption) (by assumption) (fun _ => ?_)
      | with_reducible refine sX3_whoNow (by first | assumption | exact MMz.m (by assumption) | exact MM.fr (by first | assumption | exact MMz.m (by assumption)) (by assumption) | exact MM.ext' (by assumption) (by assumption) | exact (by assumption : ∀ f', MM g w0 y nM kd (upw _ nM (.inl (0, 8, .inr (.inl f'))))) _ | exact (by assumption : ∀ (th' rf' md' : Int32), MM g w0 y nM kd (upw _ y (.inr (7, [.int th', .ref nM, .ref _, .ref _, .int rf', .int kd, .int md'])))) _ _ _) (by assumption) (by assumption) (fun _ => ?_)
      | with_reducible refine sX3_whichNow_ (by first | assumption | exact MMz.m (by assumption) | exact MM.fr (by first | assumption | exact MMz.m (by assumption)) (by assumption) | exact MM.ext' (by assumption) (by assumption) | exact (by assumption : ∀ f', MM g w0 y nM kd (upw _ nM (.inl (0, 8, .inr (.inl f'))))) _ | exact (by assumption : ∀ (th' rf' md' : Int32), MM g w0 y nM kd (upw _ y (.inr (7, [.int th', .ref nM, .ref _, .ref _, .int rf', .int kd, .int md'])))) _ _ _) (fun _ => ?_)
      | with_reducible refine sX3_likesNow (by first | assumption | exact MMz.m (by assumption) | exact MM.fr (by first | assumption | exact MMz.m (by assumption)) (by assumption) | exact MM.ext' (by assumption) (by assumption) | exact (by assumption : ∀ f', MM g w0 y nM kd (upw _ nM (.inl (0, 8, .inr (.inl f'))))) _ | exact (by assumption : ∀ (th' rf' md' : Int32), MM g w0 y nM kd (upw _ y (.inr (7, [.int th', .ref nM, .ref _, .ref _, .int rf', .int kd, .int md'])))) _ _ _) (by assumption) (by assumption) (by assumption) (fun _ => ?_)
      | with_reducible refine sX3_isNoPair (by first | assumption | exact MMz.m (by assumption) | exact MM.fr (by first | assumption | exact MMz.m (by assumption)) (by assumption) | exact MM.ext' (by assumption) (by assumption) | exact (by assumption : ∀ f', MM g w0 y nM kd (upw _ nM (.inl (0, 8, .inr (.inl f'))))) _ | exact (by assumption : ∀ (th' rf' md' : Int32), MM g w0 y nM kd (upw _ y (.inr (7, [.int th', .ref nM, .ref _, .ref _, .int rf', .int kd, .int md'])))) _ _ _) (fun _ _ => ?_) (fun _ _ _ _ _ _ _ _ => ?_)
      | with_reducible refine sX3_isNoEnd_ (by first | assumption | exact MMz.m (by assumption) | exact MM.fr (by first | assumption | exact MMz.m (by assumption)) (by assumption) | exact MM.ext' (by assumption) (by assumption) | exact (by assumption : ∀ f', MM g w0 y nM kd (upw _ nM (.inl (0, 8, .inr (.inl f'))))) _ | exact (by assumption : ∀ (th' rf' md' : Int32), MM g w0 y nM kd (upw _ y (.inr (7, [.int th', .ref nM, .ref _, .ref _, .int rf', .int kd, .int md'])))) _ _ _) (fun _ _ => ?_) (fun _ _ _ _ _ _ _ _ => ?_)
      | with_reducible refine sX3_seekNowM (by first | assumption | exact MMz.m (by assumption) | exact MM.fr (by first | assumption | exact MMz.m (by assumption)) (by assumption) | exact MM.ext' (by assumption) (by assumption) | exact (by assumption : ∀ f', MM g w0 y nM kd (upw _ nM (.inl (0, 8, .inr (.inl f'))))) _ | exact (by assumption : ∀ (th' rf' md' : Int32), MM g w0 y nM kd (upw _ y (.inr (7, [.int th', .ref nM, .ref _, .ref _, .int rf', .int kd, .int md'])))) _ _ _) (by assumption) (by assumption) (by assumption) (fun _ _ _ _ => ?_)
      | with_reducible refine sSetYR (by first | assumption | exact MMz.m (by assumption) | exact MM.fr (by first | assumption | exact MMz.m (by assumption)) (by assumption) | exact MM.ext' (by assumption) (by assumption) | exact (by assumption : ∀ f', MM g w0 y nM kd (upw _ nM (.inl (0, 8, .inr (.inl f'))))) _ | exact (by assumption : ∀ (th' rf' md' : Int32), MM g w0 y nM kd (upw _ y (.inr (7, [.int th', .ref nM, .ref _, .ref _, .int rf', .int kd, .int md'])))) _ _ _) (by first | assumption | exact isY.s | exact isY.fr (by assumption) (by assumption)) (by first | assumption | exact CAt.row (by assumption) | exact isRow.ext (by assumption) (by assumption) | exact isRow.ext (by assumption) (ext_up2 ext.rf (by assumption))) (by assumption) (by first | assumption | exact lt65 (by assumption)) (fun _ _ => ?_) (fun _ _ _ => ?_)
      | with_reducible refine sSetYN (by first | assumption | exact MMz.m (by assumption) | exact MM.fr (by first | assumption | exact MMz.m (by assumption)) (by assumption) | exact MM.ext' (by assumption) (by assumption) | exact (by assumption : ∀ f', MM g w0 y nM kd (upw _ nM (.inl (0, 8, .inr (.inl f'))))) _ | exact (by assumption : ∀ (th' rf' md' : Int32), MM g w0 y nM kd (upw _ y (.inr (7, [.int th', .ref nM, .ref _, .ref _, .int rf', .int kd, .int md'])))) _ _ _) (by first | assumption | exact isY.s | exact isY.fr (by assumption) (by assumption)) (by assumption) (by first | assumption | exact lt65 (by assumption)) (fun _ _ => ?_) (fun _ _ _ => ?_)
      | with_reducible refine sSizeM (by first | assumption | exact MMz.m (by assumption) | exact MM.fr (by first | assumption | exact MMz.m (by assumption)) (by assumption) | exact MM.ext' (by assumption) (by assumption) | exact (by assumption : ∀ f', MM g w0 y nM kd (upw _ nM (.inl (0, 8, .inr (.inl f'))))) _ | exact (by assumption : ∀ (th' rf' md' : Int32), MM g w0 y nM kd (upw _ y (.inr (7, [.int th', .ref nM, .ref _, .ref _, .int rf', .int kd, .int md'])))) _ _ _) (by first | assumption | exact isY.s | exact isY.fr (by assumption) (by assumption)) (fun _ _ => ?_)
      | with_reducible refine sX3_oftenNow (by first | assumption | exact MMz.m (by assumption) | exact MM.fr (by first | assumption | exact MMz.m (by assumption)) (by assumption) | exact MM.ext' (by assumption) (by assumption) | exact (by assumption : ∀ f', MM g w0 y nM kd (upw _ nM (.inl (0, 8, .inr (.inl f'))))) _ | exact (by assumption : ∀ (th' rf' md' : Int32), MM g w0 y nM kd (upw _ y (.inr (7, [.int th', .ref nM, .ref _, .ref _, .int rf', .int kd, .int md'])))) _ _ _) (by assumption) (by assumption) (by assumption) (fun _ _ _ => ?_)
      | with_reducible refine sX3_pileNowM (by first | assumption | exact MMz.m (by assumption) | exact MM.fr (by first | assumption | exact MMz.m (by assumption)) (by assumption) | exact MM.ext' (by assumption) (by assumption) | exact (by assumption : ∀ f', MM g w0 y nM kd (upw _ nM (.inl (0, 8, .inr (.inl f'))))) _ | exact (by assumption : ∀ (th' rf' md' : Int32), MM g w0 y nM kd (upw _ y (.inr (7, [.int th', .ref nM, .ref _, .ref _, .int rf', .int kd, .int md'])))) _ _ _) (by assumption) (by assumption) (by assumption) (by assumption) (fun _ _ _ => ?_)
      | with_reducible refine sX3_houseNow (by first | assumption | exact MMz.m (by assumption) | exact MM.fr (by first | assumption | exact MMz.m (by assumption)) (by assumption) | exact MM.ext' (by assumption) (by assumption) | exact (by assumption : ∀ f', MM g w0 y nM kd (upw _ nM (.inl (0, 8, .inr (.inl f'))))) _ | exact (by assumption : ∀ (th' rf' md' : Int32), MM g w0 y nM kd (upw _ y (.inr (7, [.int th', .ref nM, .ref _, .ref _, .int rf', .int kd, .int md'])))) _ _ _) (by assumption) (by assumption) (fun _ _ _ => ?_)
      | with_reducible exact hQ _
      | simp only [eX3_count_0, eX3_count_0N, eX3_count_1, eX3_count_2, eX3_count_5, eX3_count_6, eX3_count_9, eX3_count_12, eX3_count_12N, eX3_count_13, eX3_count_14, eX3_count_15, eX3_count_17, eX3_count_20, eX3_count_23, eX3_count_24, eX3_count_27, eX3_count_28, eX3_count_29, eX3_count_32, eX3_count_35, eX3_count_35N, eX3_count_36, eX3_count_36N, eX3_count_37, eX3_count_38, eX3_count_41, eX3_count_42, eX3_count_45, eX3_count_48, eX3_count_49, eX3_count_50, eX3_count_51, eX3_count_53, eX3_count_54, eX3_count_58, eX3_count_59, eX3_count_62, eX3_count_64, eX3_count_64N, eX3_count_65, eX3_count_68, eX3_count_69, eX3_count_72N, eX3_count_72R, eX3_count_75, eX3_count_76, eX3_count_77, eX3_count_79, eX3_count_80, eX3_count_81, eX3_count_82R, eX3_count_82N, eX3_count_85, eX3_count_88, eX3_count_89, eX3_count_91, eX3_count_94, eX3_count_97, eX3_count_99, ite_le, n45, n54, true_or, or_true, false_or, or_false, false_and, and_false, kx_l, kx_r, go_s, gl_s, gi_s, gb_s2, gb_s3, gq_s, wt_nil, wt_int, wt_long, wt_ref, wt_null, nl_int, nl_long, nl_ref, nl_null, nl_none, rf_n, rf_s, rf_st, tl_s, tl_n, g0, gS, ex1, nb_b, nb_0, nb_1, nf_i, nf_l, nf_ra, nf_ro, nf_na, nf_no, nf_b0, nf_z0, t45_4, t45_5, true_and, and_true, List.set_cons_zero, List.set_cons_succ, List.length_cons, List.length_nil, rd_s, upw_s, ne_eq, not_false_eq_true, Nat.zero_add, Nat.add_zero, if_true, if_false, eq_self, m10, n4e, upw2q]
      | split
      | with_reducible intro _
      | omega
  | succ d ih =>
    intro i4 i5 k m hm hk hs
    rw [eX3_count_56]
    repeat' first
      | with_reducible assumption
      | with_reducible refine And.intro ?_ ?_
      | with_reducible exact ih _ _ _ _ (ic_s (by assumption) (by assumption)) (by first | assumption | omega) (by first | assumption | omega)
      | with_reducible exact absurd (by assumption) n10'
      | with_reducible refine sX3_isNoNumber ?_ (fun _ _ => ?_)
      | with_reducible refine sX3_isNoCard ?_ (fun _ _ => ?_)
      | with_reducible refine sX3_isNoEnd ?_ (fun _ _ => ?_)
      | with_reducible refine sX3_isIn (fun _ _ => ?_) ?_
      | with_reducible refine sX3_start (by first | assumption | exact MMz.m (by assumption) | exact MM.fr (by first | assumption | exact MMz.m (by assumption)) (by assumption) | exact MM.ext' (by assumption) (by assumption) | exact (by assumption : ∀ f', MM g w0 y nM kd (upw _ nM (.inl (0, 8, .inr (.inl f'))))) _ | exact (by assumption : ∀ (th' rf' md' : Int32), MM g w0 y nM kd (upw _ y (.inr (7, [.int th', .ref nM, .ref _, .ref _, .int rf', .int kd, .int md'])))) _ _ _) (by decide) (fun _ _ _ => ?_) (fun _ _ => ?_)
      | with_reducible refine sX3_refuse (by assumption) (by decide) (fun _ => ?_) (fun _ _ => ?_)
      | with_reducible refine sX3_isBareM (by first | assumption | exact MMz.m (by assumption) | exact MM.fr (by first | assumption | exact MMz.m (by assumption)) (by assumption) | exact MM.ext' (by assumption) (by assumption) | exact (by assumption : ∀ f', MM g w0 y nM kd (upw _ nM (.inl (0, 8, .inr (.inl f'))))) _ | exact (by assumption : ∀ (th' rf' md' : Int32), MM g w0 y nM kd (upw _ y (.inr (7, [.int th', .ref nM, .ref _, .ref _, .int rf', .int kd, .int md'])))) _ _ _) (by assumption) (by first | assumption | exact lt65 (by assumption)) ?_ (fun _ _ => ?_)
      | with_reducible refine sX3_isNone (by first | assumption | exact MMz.m (by assumption) | exact MM.fr (by first | assumption | exact MMz.m (by assumption)) (by assumption) | exact MM.ext' (by assumption) (by assumption) | exact (by assumption : ∀ f', MM g w0 y nM kd (upw _ nM (.inl (0, 8, .inr (.inl f'))))) _ | exact (by assumption : ∀ (th' rf' md' : Int32), MM g w0 y nM kd (upw _ y (.inr (7, [.int th', .ref nM, .ref _, .ref _, .int rf', .int kd, .int md'])))) _ _ _) (fun _ _ => ?_) (fun _ _ _ _ _ _ => ?_)
      | with_reducible exact vpi8n (by assumption) (by assumption)
      | with_reducible exact vpi4n (by assumption) (by assumption)
      | with_reducible exact vpi4.1
      | with_reducible exact vpi4.2.1
      | with_reducible exact vpi4.2.2.1
      | with_reducible exact vpi4.2.2.2
      | with_reducible refine go_Y (by first | assumption | exact MMz.m (by assumption) | exact MM.fr (by first | assumption | exact MMz.m (by assumption)) (by assumption) | exact MM.ext' (by assumption) (by assumption) | exact (by assumption : ∀ f', MM g w0 y nM kd (upw _ nM (.inl (0, 8, .inr (.inl f'))))) _ | exact (by assumption : ∀ (th' rf' md' : Int32), MM g w0 y nM kd (upw _ y (.inr (7, [.int th', .ref nM, .ref _, .ref _, .int rf', .int kd, .int md'])))) _ _ _) (fun _ _ _ _ _ _ => ?_)
      | with_reducible refine go_Yw (by first | assumption | exact MMz.m (by assumption) | exact MM.fr (by first | assumption | exact MMz.m (by assumption)) (by assumption) | exact MM.ext' (by assumption) (by assumption) | exact (by assumption : ∀ f', MM g w0 y nM kd (upw _ nM (.inl (0, 8, .inr (.inl f'))))) _ | exact (by assumption : ∀ (th' rf' md' : Int32), MM g w0 y nM kd (upw _ y (.inr (7, [.int th', .ref nM, .ref _, .ref _, .int rf', .int kd, .int md'])))) _ _ _) (fun _ _ _ _ _ _ => ?_)
      | with_reducible refine gl_M (by first | assumption | exact MMz.m (by assumption) | exact MM.fr (by first | assumption | exact MMz.m (by assumption)) (by assumption) | exact MM.ext' (by assumption) (by assumption) | exact (by assumption : ∀ f', MM g w0 y nM kd (upw _ nM (.inl (0, 8, .inr (.inl f'))))) _ | exact (by assumption : ∀ (th' rf' md' : Int32), MM g w0 y nM kd (upw _ y (.inr (7, [.int th', .ref nM, .ref _, .ref _, .int rf', .int kd, .int md'])))) _ _ _) ?_
      | with_reducible refine gl_Mw (by first | assumption | exact MMz.m (by assumption) | exact MM.fr (by first | assumption | exact MMz.m (by assumption)) (by assumption) | exact MM.ext' (by assumption) (by assumption) | exact (by assumption : ∀ f', MM g w0 y nM kd (upw _ nM (.inl (0, 8, .inr (.inl f'))))) _ | exact (by assumption : ∀ (th' rf' md' : Int32), MM g w0 y nM kd (upw _ y (.inr (7, [.int th', .ref nM, .ref _, .ref _, .int rf', .int kd, .int md'])))) _ _ _) ?_
      | with_reducible exact gtC (by first | assumption | exact MMz.m (by assumption) | exact MM.fr (by first | assumption | exact MMz.m (by assumption)) (by assumption) | exact MM.ext' (by assumption) (by assumption) | exact (by assumption : ∀ f', MM g w0 y nM kd (upw _ nM (.inl (0, 8, .inr (.inl f'))))) _ | exact (by assumption : ∀ (th' rf' md' : Int32), MM g w0 y nM kd (upw _ y (.inr (7, [.int th', .ref nM, .ref _, .ref _, .int rf', .int kd, .int md'])))) _ _ _) (by first | assumption | exact isY.s | exact isY.fr (by assumption) (by assumption))
      | with_reducible exact gtP (by first | assumption | exact MMz.m (by assumption) | exact MM.fr (by first | assumption | exact MMz.m (by assumption)) (by assumption) | exact MM.ext' (by assumption) (by assumption) | exact (by assumption : ∀ f', MM g w0 y nM kd (upw _ nM (.inl (0, 8, .inr (.inl f'))))) _ | exact (by assumption : ∀ (th' rf' md' : Int32), MM g w0 y nM kd (upw _ y (.inr (7, [.int th', .ref nM, .ref _, .ref _, .int rf', .int kd, .int md'])))) _ _ _) (by first | assumption | exact isY.s | exact isY.fr (by assumption) (by assumption))
      | with_reducible refine gl_Row (by first | assumption | exact CAt.row (by assumption) | exact isRow.ext (by assumption) (by assumption)) (fun _ => ?_)
      | with_reducible exact isRow.ca (by first | assumption | exact CAt.row (by assumption) | exact isRow.ext (by assumption) (by assumption))
      | with_reducible refine sGetY (by first | assumption | exact CAt.fr (by assumption) (by assumption)) (by first | assumption | exact isY.s | exact isY.fr (by assumption) (by assumption)) (by assumption) (by first | assumption | exact lt65 (by assumption)) ?_
      | with_reducible exact n4g
      | with_reducible exact n4a
      | with_reducible exact n4b
      | with_reducible exact n4c
      | with_reducible refine sX3_high (fun _ => ?_)
      | with_reducible refine sX3_low (fun _ => ?_)
      | with_reducible refine sX3_one (fun _ => ?_)
      | with_reducible refine sX3_become (by first | assumption | exact MMz.m (by assumption) | exact MM.fr (by first | assumption | exact MMz.m (by assumption)) (by assumption) | exact MM.ext' (by assumption) (by assumption) | exact (by assumption : ∀ f', MM g w0 y nM kd (upw _ nM (.inl (0, 8, .inr (.inl f'))))) _ | exact (by assumption : ∀ (th' rf' md' : Int32), MM g w0 y nM kd (upw _ y (.inr (7, [.int th', .ref nM, .ref _, .ref _, .int rf', .int kd, .int md'])))) _ _ _) (by assumption) (by assumption) (fun _ _ _ => ?_)
      | with_reducible refine sX3_no (by first | assumption | exact MMz.m (by assumption) | exact MM.fr (by first | assumption | exact MMz.m (by assumption)) (by assumption) | exact MM.ext' (by assumption) (by assumption) | exact (by assumption : ∀ f', MM g w0 y nM kd (upw _ nM (.inl (0, 8, .inr (.inl f'))))) _ | exact (by assumption : ∀ (th' rf' md' : Int32), MM g w0 y nM kd (upw _ y (.inr (7, [.int th', .ref nM, .ref _, .ref _, .int rf', .int kd, .int md'])))) _ _ _) (fun _ _ => ?_)
      | with_reducible refine sX3_fixed (by first | assumption | exact CAt.row (by assumption) | exact isRow.ext (by assumption) (by assumption)) ?_ ?_
      | with_reducible refine sX3_small (by first | assumption | exact CAt.row (by assumption) | exact isRow.ext (by assumption) (by assumption)) ?_ ?_
      | with_reducible refine sX3_make (by first | assumption | exact MMz.m (by assumption) | exact MM.fr (by first | assumption | exact MMz.m (by assumption)) (by assumption) | exact MM.ext' (by assumption) (by assumption) | exact (by assumption : ∀ f', MM g w0 y nM kd (upw _ nM (.inl (0, 8, .inr (.inl f'))))) _ | exact (by assumption : ∀ (th' rf' md' : Int32), MM g w0 y nM kd (upw _ y (.inr (7, [.int th', .ref nM, .ref _, .ref _, .int rf', .int kd, .int md'])))) _ _ _) (by assumption) (by assumption) (fun _ _ _ => ?_)
      | with_reducible refine sX3_valid (by first | assumption | exact CAt.row (by assumption) | exact isRow.ext (by assumption) (by assumption)) ?_ ?_
      | with_reducible refine sX3_same (by first | assumption | exact CAt.row (by assumption) | exact isRow.ext (by assumption) (by assumption)) (by first | assumption | exact CAt.row (by assumption) | exact isRow.ext (by assumption) (by assumption)) (fun _ _ => ?_)
      | with_reducible refine sX3_aroundNow (by first | assumption | exact CAt.row (by assumption) | exact isRow.ext (by assumption) (by assumption)) (by assumption) (by assumption) (fun _ => ?_)
      | with_reducible refine sX3_whoNow (by first | assumption | exact MMz.m (by assumption) | exact MM.fr (by first | assumption | exact MMz.m (by assumption)) (by assumption) | exact MM.ext' (by assumption) (by assumption) | exact (by assumption : ∀ f', MM g w0 y nM kd (upw _ nM (.inl (0, 8, .inr (.inl f'))))) _ | exact (by assumption : ∀ (th' rf' md' : Int32), MM g w0 y nM kd (upw _ y (.inr (7, [.int th', .ref nM, .ref _, .ref _, .int rf', .int kd, .int md'])))) _ _ _) (by assumption) (by assumption) (fun _ => ?_)
      | with_reducible refine sX3_whichNow_ (by first | assumption | exact MMz.m (by assumption) | exact MM.fr (by first | assumption | exact MMz.m (by assumption)) (by assumption) | exact MM.ext' (by assumption) (by assumption) | exact (by assumption : ∀ f', MM g w0 y nM kd (upw _ nM (.inl (0, 8, .inr (.inl f'))))) _ | exact (by assumption : ∀ (th' rf' md' : Int32), MM g w0 y nM kd (upw _ y (.inr (7, [.int th', .ref nM, .ref _, .ref _, .int rf', .int kd, .int md'])))) _ _ _) (fun _ => ?_)
      | with_reducible refine sX3_likesNow (by first | assumption | exact MMz.m (by assumption) | exact MM.fr (by first | assumption | exact MMz.m (by assumption)) (by assumption) | exact MM.ext' (by assumption) (by assumption) | exact (by assumption : ∀ f', MM g w0 y nM kd (upw _ nM (.inl (0, 8, .inr (.inl f'))))) _ | exact (by assumption : ∀ (th' rf' md' : Int32), MM g w0 y nM kd (upw _ y (.inr (7, [.int th', .ref nM, .ref _, .ref _, .int rf', .int kd, .int md'])))) _ _ _) (by assumption) (by assumption) (by assumption) (fun _ => ?_)
      | with_reducible refine sX3_isNoPair (by first | assumption | exact MMz.m (by assumption) | exact MM.fr (by first | assumption | exact MMz.m (by assumption)) (by assumption) | exact MM.ext' (by assumption) (by assumption) | exact (by assumption : ∀ f', MM g w0 y nM kd (upw _ nM (.inl (0, 8, .inr (.inl f'))))) _ | exact (by assumption : ∀ (th' rf' md' : Int32), MM g w0 y nM kd (upw _ y (.inr (7, [.int th', .ref nM, .ref _, .ref _, .int rf', .int kd, .int md'])))) _ _ _) (fun _ _ => ?_) (fun _ _ _ _ _ _ _ _ => ?_)
      | with_reducible refine sX3_isNoEnd_ (by first | assumption | exact MMz.m (by assumption) | exact MM.fr (by first | assumption | exact MMz.m (by assumption)) (by assumption) | exact MM.ext' (by assumption) (by assumption) | exact (by assumption : ∀ f', MM g w0 y nM kd (upw _ nM (.inl (0, 8, .inr (.inl f'))))) _ | exact (by assumption : ∀ (th' rf' md' : Int32), MM g w0 y nM kd (upw _ y (.inr (7, [.int th', .ref nM, .ref _, .ref _, .int rf', .int kd, .int md'])))) _ _ _) (fun _ _ => ?_) (fun _ _ _ _ _ _ _ _ => ?_)
      | with_reducible refine sX3_seekNowM (by first | assumption | exact MMz.m (by assumption) | exact MM.fr (by first | assumption | exact MMz.m (by assumption)) (by assumption) | exact MM.ext' (by assumption) (by assumption) | exact (by assumption : ∀ f', MM g w0 y nM kd (upw _ nM (.inl (0, 8, .inr (.inl f'))))) _ | exact (by assumption : ∀ (th' rf' md' : Int32), MM g w0 y nM kd (upw _ y (.inr (7, [.int th', .ref nM, .ref _, .ref _, .int rf', .int kd, .int md'])))) _ _ _) (by assumption) (by assumption) (by assumption) (fun _ _ _ _ => ?_)
      | with_reducible refine sSetYR (by first | assumption | exact MMz.m (by assumption) | exact MM.fr (by first | assumption | exact MMz.m (by assumption)) (by assumption) | exact MM.ext' (by assumption) (by assumption) | exact (by assumption : ∀ f', MM g w0 y nM kd (upw _ nM (.inl (0, 8, .inr (.inl f'))))) _ | exact (by assumption : ∀ (th' rf' md' : Int32), MM g w0 y nM kd (upw _ y (.inr (7, [.int th', .ref nM, .ref _, .ref _, .int rf', .int kd, .int md'])))) _ _ _) (by first | assumption | exact isY.s | exact isY.fr (by assumption) (by assumption)) (by first | assumption | exact CAt.row (by assumption) | exact isRow.ext (by assumption) (by assumption) | exact isRow.ext (by assumption) (ext_up2 ext.rf (by assumption))) (by assumption) (by first | assumption | exact lt65 (by assumption)) (fun _ _ => ?_) (fun _ _ _ => ?_)
      | with_reducible refine sSetYN (by first | assumption | exact MMz.m (by assumption) | exact MM.fr (by first | assumption | exact MMz.m (by assumption)) (by assumption) | exact MM.ext' (by assumption) (by assumption) | exact (by assumption : ∀ f', MM g w0 y nM kd (upw _ nM (.inl (0, 8, .inr (.inl f'))))) _ | exact (by assumption : ∀ (th' rf' md' : Int32), MM g w0 y nM kd (upw _ y (.inr (7, [.int th', .ref nM, .ref _, .ref _, .int rf', .int kd, .int md'])))) _ _ _) (by first | assumption | exact isY.s | exact isY.fr (by assumption) (by assumption)) (by assumption) (by first | assumption | exact lt65 (by assumption)) (fun _ _ => ?_) (fun _ _ _ => ?_)
      | with_reducible refine sSizeM (by first | assumption | exact MMz.m (by assumption) | exact MM.fr (by first | assumption | exact MMz.m (by assumption)) (by assumption) | exact MM.ext' (by assumption) (by assumption) | exact (by assumption : ∀ f', MM g w0 y nM kd (upw _ nM (.inl (0, 8, .inr (.inl f'))))) _ | exact (by assumption : ∀ (th' rf' md' : Int32), MM g w0 y nM kd (upw _ y (.inr (7, [.int th', .ref nM, .ref _, .ref _, .int rf', .int kd, .int md'])))) _ _ _) (by first | assumption | exact isY.s | exact isY.fr (by assumption) (by assumption)) (fun _ _ => ?_)
      | with_reducible refine sX3_oftenNow (by first | assumption | exact MMz.m (by assumption) | exact MM.fr (by first | assumption | exact MMz.m (by assumption)) (by assumption) | exact MM.ext' (by assumption) (by assumption) | exact (by assumption : ∀ f', MM g w0 y nM kd (upw _ nM (.inl (0, 8, .inr (.inl f'))))) _ | exact (by assumption : ∀ (th' rf' md' : Int32), MM g w0 y nM kd (upw _ y (.inr (7, [.int th', .ref nM, .ref _, .ref _, .int rf', .int kd, .int md'])))) _ _ _) (by assumption) (by assumption) (by assumption) (fun _ _ _ => ?_)
      | with_reducible refine sX3_pileNowM (by first | assumption | exact MMz.m (by assumption) | exact MM.fr (by first | assumption | exact MMz.m (by assumption)) (by assumption) | exact MM.ext' (by assumption) (by assumption) | exact (by assumption : ∀ f', MM g w0 y nM kd (upw _ nM (.inl (0, 8, .inr (.inl f'))))) _ | exact (by assumption : ∀ (th' rf' md' : Int32), MM g w0 y nM kd (upw _ y (.inr (7, [.int th', .ref nM, .ref _, .ref _, .int rf', .int kd, .int md'])))) _ _ _) (by assumption) (by assumption) (by assumption) (by assumption) (fun _ _ _ => ?_)
      | with_reducible refine sX3_houseNow (by first | assumption | exact MMz.m (by assumption) | exact MM.fr (by first | assumption | exact MMz.m (by assumption)) (by assumption) | exact MM.ext' (by assumption) (by assumption) | exact (by assumption : ∀ f', MM g w0 y nM kd (upw _ nM (.inl (0, 8, .inr (.inl f'))))) _ | exact (by assumption : ∀ (th' rf' md' : Int32), MM g w0 y nM kd (upw _ y (.inr (7, [.int th', .ref nM, .ref _, .ref _, .int rf', .int kd, .int md'])))) _ _ _) (by assumption) (by assumption) (fun _ _ _ => ?_)
      | with_reducible exact hQ _
      | simp only [eX3_count_0, eX3_count_0N, eX3_count_1, eX3_count_2, eX3_count_5, eX3_count_6, eX3_count_9, eX3_count_12, eX3_count_12N, eX3_count_13, eX3_count_14, eX3_count_15, eX3_count_17, eX3_count_20, eX3_count_23, eX3_count_24, eX3_count_27, eX3_count_28, eX3_count_29, eX3_count_32, eX3_count_35, eX3_count_35N, eX3_count_36, eX3_count_36N, eX3_count_37, eX3_count_38, eX3_count_41, eX3_count_42, eX3_count_45, eX3_count_48, eX3_count_49, eX3_count_50, eX3_count_51, eX3_count_53, eX3_count_54, eX3_count_58, eX3_count_59, eX3_count_62, eX3_count_64, eX3_count_64N, eX3_count_65, eX3_count_68, eX3_count_69, eX3_count_72N, eX3_count_72R, eX3_count_75, eX3_count_76, eX3_count_77, eX3_count_79, eX3_count_80, eX3_count_81, eX3_count_82R, eX3_count_82N, eX3_count_85, eX3_count_88, eX3_count_89, eX3_count_91, eX3_count_94, eX3_count_97, eX3_count_99, ite_le, n45, n54, true_or, or_true, false_or, or_false, false_and, and_false, kx_l, kx_r, go_s, gl_s, gi_s, gb_s2, gb_s3, gq_s, wt_nil, wt_int, wt_long, wt_ref, wt_null, nl_int, nl_long, nl_ref, nl_null, nl_none, rf_n, rf_s, rf_st, tl_s, tl_n, g0, gS, ex1, nb_b, nb_0, nb_1, nf_i, nf_l, nf_ra, nf_ro, nf_na, nf_no, nf_b0, nf_z0, t45_4, t45_5, true_and, and_true, List.set_cons_zero, List.set_cons_succ, List.length_cons, List.length_nil, rd_s, upw_s, ne_eq, not_false_eq_true, Nat.zero_add, Nat.add_zero, if_true, if_false, eq_self, m10, n4e, upw2q]
      | split
      | with_reducible intro _
      | omega
end
end
/-! 69p.pil9.lean.txt -/
section
section
variable {g : RO} {Q : Ot → Hw → Prop} {w0 w : Hw}
variable {y nM : Nat} {kd : Int32}
theorem of4 : Int32.ofNat 4 = 4 := rfl
end
end
/-! 69p.pila.lean.txt -/
section
section
variable {g : RO} {Q : Ot → Hw → Prop} {w0 w : Hw}
variable {y nM : Nat} {kd : Int32}
/-- what the making leaves alone -/
def FI (g : RO) (y : Nat) (w w' : Hw) : Prop := (∀ (a : Nat) (o : Ob), w a = some o → a ≠ y → w' a = some o) ∧ ∀ (a : Nat) (o : Ob), g.2 a = some o → w a = none → w' a = none
theorem FI.ext {y : Nat} {w1 w' : Hw} (h : FI g y w w1) (k : ext g w1 w') : FI g y w w' := ⟨fun a o e n => k.1 _ _ (h.1 a o e n), fun a o e n => k.2 a o e (h.2 a o e n)⟩
theorem FI.up {y : Nat} {w1 : Hw} {o1 o : Ob} (h : FI g y w w1) (hy : w1 y = some o1) : FI g y w (upw w1 y o) := ⟨fun a o e n => by
    rw [upw_n n]
    exact h.1 a o e n, fun a o e n => by
    rw [upw_n]
    · exact h.2 a o e n
    · rintro rfl
      have := h.2 a o e n
      rw [hy] at this
      cases this⟩
theorem FI.eg {y : Nat} {w1 : Hw} (h : FI g y w w1) (hE : EG g w) : EG g w1 := ⟨hE.1.imp fun e z => ⟨z.1, z.2.1, h.2 e _ z.2.1 z.2.2⟩, hE.2⟩
theorem lt66 : ((6 : Int32) < 6) = False := eq_false (by decide)
theorem n8e : (8 : Int32).toNatClampNeg = 8 := rfl
theorem n8a : ¬ (8 : Int32) < 0 := by decide
theorem FI.rf {y : Nat} : FI g y w w := ⟨fun _ _ h _ => h, fun _ _ _ h => h⟩
end
end
/-! 69p.pilb.lean.txt -/
section
section
variable {g : RO} {Q : Ot → Hw → Prop} {w0 w : Hw}
variable {y nM : Nat} {kd : Int32}
theorem DG.fm (h : DG g w0) (hM : MM g w0 y nM kd w) : DG g w := ⟨h.1, h.2.1.imp fun a z => z.imp fun f z => ⟨z.1, z.2.1, hM.2.2 _ _ z.2.1 z.2.2⟩, h.2.2.imp fun a z => z.imp fun f z => ⟨z.1, z.2.1, hM.2.2 _ _ z.2.1 z.2.2⟩⟩
theorem STO.fm {s : Nat} (h : STO g w0 s) (hM : MM g w0 y nM kd w) : STO g w s := by
  obtain ⟨v, M, f, h1, z, a, b, c, d, e⟩ := h
  exact ⟨v, M, f, h1, z, a, hM.2.2 _ _ a b, c, hM.2.2 _ _ c d, e⟩
theorem TS.g1 {b d N : Nat} {c : Int32} (hT : TS g w0 b d N c w) : go (rd g w b) 1 fun _ => True := by
  obtain ⟨_, _, hb2, _, _, _, _, rb2, _⟩ := hT.opn g
  rw [rb2, go_s]
  trivial
theorem MM.ts {b d N : Nat} {c : Int32} {w1 : Hw} (hT : TS g w1 b d N c w) (hM : MM g w0 y nM kd w1) : MM g w0 y nM kd w := hM.ext' hT.1
theorem TS.row {b d N p : Nat} {c : Int32} {w1 : Hw} (hT : TS g w1 b d N c w) (h : isRow w1 p) : isRow w p := h.ext hT.1
/-- the model's own texts -/
def TXT (g : RO) (w : Hw) : Prop := (∃ s, g.1 21 = .ref s ∧ STO g w s ∧ STB g s 0) ∧ (∃ s, g.1 22 = .ref s) ∧ ∃ s, g.1 23 = .ref s ∧ STO g w s ∧ STB g s 1
end
end
/-! 69p.pilc.lean.txt -/
section
section
variable {g : RO} {Q : Ot → Hw → Prop} {w0 w : Hw}
variable {y nM : Nat} {kd : Int32}
theorem dl1 {i c : Int32} (h : ¬ c < i) (hc : c.toInt < 1000000) : (i + 1).toInt = i.toInt + 1 ∧ i.toInt ≤ c.toInt := ⟨i32_sl h hc, i32_nlt h⟩
theorem dl2 {i c : Int32} (h : i < c) : (i + 1).toInt = i.toInt + 1 ∧ i.toInt < c.toInt := ⟨i32_s h, i32_lt h⟩
theorem lt87 {a : Int32} (h : a < 8) : ¬ 7 < a := by
  have h1 := i32_lt h
  refine i32_of_nlt ?_
  have e : (7 : Int32).toInt = 7 := rfl
  have e6 : (8 : Int32).toInt = 8 := rfl
  omega
theorem lt43 {a : Int32} (h : a < 4) : ¬ 3 < a := by
  have h1 := i32_lt h
  refine i32_of_nlt ?_
  have e : (3 : Int32).toInt = 3 := rfl
  have e6 : (4 : Int32).toInt = 4 := rfl
  omega
theorem i0z : (0 : Int32).toInt = 0 := rfl
theorem dgk {i3 : Int32} {k : Nat} (h : ¬ 5 < i3) (hk : (k : Int) ≤ 16 + 12 * i3.toInt) : k + 12 ≤ 90 := by
  have e := i32_nlt h
  have z : (5 : Int32).toInt = 5 := rfl
  omega
theorem dgm {i3 : Int32} {m : Nat} (h : ¬ 5 < i3) (hm : (m : Int) ≤ 69 + 72 * i3.toInt) : m + 72 ≤ 520 := by
  have e := i32_nlt h
  have z : (5 : Int32).toInt = 5 := rfl
  omega
set_option maxHeartbeats 8000000 in
theorem elX3_digest_340 (hM : MM g w0 y nM kd w) (hQ : ∀ (v : Int64) w', ext g w w' → Q (.inl (some (.long v))) w') : ∀ (d : Nat) (i1 : Int64) (i3 : Int32) (o4 o5 : Option Value) (w' : Hw) (k m : Nat), ¬ i3 < 0 → ext g w w' → 6 - i3.toInt ≤ (d : Int) → i3.toInt ≤ 6 → (k : Int) ≤ 16 + 12 * i3.toInt → (m : Int) ≤ 69 + 72 * i3.toInt → WP (MX3_digest g) Q (340, [some (.ref y), some (.long i1), none, some (.int i3), o4, o5], [], w', k, m) := by
  have zb : (5 : Int32).toInt = 5 := rfl
  intro d
  induction d with
  | zero =>
    intro i1 i3 o4 o5 w' k m z0 hk hm hi km mm
    rw [eX3_digest_340]
    repeat' first
      | with_reducible assumption
      | with_reducible refine And.intro ?_ ?_
      | with_reducible exact (by exfalso; have e := dl1 (c := 5) (i := i3) (by assumption) (by decide); omega)
      | with_reducible exact dgk (by assumption) km
      | with_reducible exact dgm (by assumption) mm
      | with_reducible refine sX3_add (fun _ => ?_)
      | with_reducible refine sX3_houseNow (hM.ext' (by first | assumption | exact ext.rf | exact ext.tr hk (by assumption))) (by assumption) (by assumption) (fun _ _ _ => ?_)
      | with_reducible refine sX3_whoNow (hM.ext' (by first | assumption | exact ext.rf | exact ext.tr hk (by assumption))) (by assumption) (by first | assumption | exact lt87 (by assumption)) (fun _ => ?_)
      | with_reducible refine sX3_whichNow_ (hM.ext' (by first | assumption | exact ext.rf | exact ext.tr hk (by assumption))) (fun _ => ?_)
      | with_reducible refine sX3_pileNowM (hM.ext' (by first | assumption | exact ext.rf | exact ext.tr hk (by assumption))) (by decide) (by decide) (by assumption) (by assumption) (fun _ _ _ => ?_)
      | with_reducible refine sX3_isBareM (hM.ext' (by first | assumption | exact ext.rf | exact ext.tr hk (by assumption))) (by assumption) (by first | assumption | exact lt65 (by assumption)) ?_ (fun _ _ => ?_)
      | with_reducible refine sX3_likesNow (hM.ext' (by first | assumption | exact ext.rf | exact ext.tr hk (by assumption))) (by assumption) (by assumption) (by first | assumption | exact lt65 (by assumption)) (fun _ => ?_)
      | with_reducible refine sX3_seekNowM (hM.ext' (by first | assumption | exact ext.rf | exact ext.tr hk (by assumption))) (by assumption) (by assumption) (by first | assumption | exact lt65 (by assumption)) (fun _ _ _ _ => ?_)
      | with_reducible refine sX3_oftenNow (hM.ext' (by first | assumption | exact ext.rf | exact ext.tr hk (by assumption))) (by assumption) (by assumption) (by first | assumption | exact lt65 (by assumption)) (fun _ _ _ => ?_)
      | with_reducible refine sX3_high (fun _ => ?_)
      | with_reducible refine sX3_low (fun _ => ?_)
      | with_reducible refine sX3_one (fun _ => ?_)
      | with_reducible refine sX3_fixedV (by first | assumption | exact CAt.row (by assumption) | exact isRow.ext (CAt.row (by assumption)) (by assumption)) (fun _ => ?_)
      | with_reducible refine sX3_smallV (by first | assumption | exact CAt.row (by assumption) | exact isRow.ext (CAt.row (by assumption)) (by assumption)) (fun _ => ?_)
      | with_reducible refine sX3_aroundNow (by first | assumption | exact CAt.row (by assumption) | exact isRow.ext (CAt.row (by assumption)) (by assumption)) (by assumption) (by first | assumption | exact lt43 (by assumption)) (fun _ => ?_)
      | with_reducible refine sX3_whichNow (by first | assumption | exact CAt.row (by assumption) | exact isRow.ext (CAt.row (by assumption)) (by assumption)) (fun _ => ?_)
      | with_reducible refine go_Y (hM.ext' (by first | assumption | exact ext.rf | exact ext.tr hk (by assumption))) (fun _ _ _ _ _ _ => ?_)
      | with_reducible refine gl_M (hM.ext' (by first | assumption | exact ext.rf | exact ext.tr hk (by assumption))) ?_
      | with_reducible exact vpi8 (by assumption) (by assumption)
      | with_reducible exact vpi4l (by assumption) (by assumption)
      | with_reducible exact gtC (hM.ext' (by first | assumption | exact ext.rf | exact ext.tr hk (by assumption))) (by assumption)
      | with_reducible refine sGetY (by assumption) (by assumption) (by assumption) (by first | assumption | exact lt65 (by assumption)) ?_
      | with_reducible exact isRow.ca (by first | assumption | exact CAt.row (by assumption) | exact isRow.ext (CAt.row (by assumption)) (by assumption))
      | with_reducible refine gl_Row (by first | assumption | exact CAt.row (by assumption) | exact isRow.ext (CAt.row (by assumption)) (by assumption)) (fun _ => ?_)
      | with_reducible exact hQ _ _ ((by first | assumption | exact ext.rf | exact ext.tr hk (by assumption)))
      | simp only [eX3_digest_341, eX3_digest_342, eX3_digest_345, eX3_digest_346, eX3_digest_346N, eX3_digest_347, eX3_digest_348, eX3_digest_349, eX3_digest_352, eX3_digest_353, eX3_digest_356, eX3_digest_357, eX3_digest_360, eX3_digest_363, eX3_digest_364, eX3_digest_365, eX3_digest_368, ite_le, n45, n54, true_or, or_true, false_or, or_false, false_and, and_false, kx_l, kx_r, go_s, gl_s, gi_s, gb_s2, gb_s3, gq_s, wt_nil, wt_int, wt_long, wt_ref, wt_null, nl_int, nl_long, nl_ref, nl_null, nl_none, rf_n, rf_s, rf_st, tl_s, tl_n, g0, gS, ex1, nb_b, nb_0, nb_1, nf_i, nf_l, nf_ra, nf_ro, nf_na, nf_no, nf_b0, nf_z0, t45_4, t45_5, true_and, and_true, List.set_cons_zero, List.set_cons_succ, List.length_cons, List.length_nil, rd_s, upw_s, ne_eq, not_false_eq_true, Nat.zero_add, Nat.add_zero, if_true, if_false, eq_self, m10]
      | split
      | with_reducible intro _
      | omega
  | succ d ih =>
    intro i1 i3 o4 o5 w' k m z0 hk hm hi km mm
    rw [eX3_digest_340]
    repeat' first
      | with_reducible assumption
      | with_reducible refine And.intro ?_ ?_
      | with_reducible exact ih _ _ _ _ _ _ _ (ic_pl (by assumption) (by assumption) (by decide)) (by first | assumption | exact ext.rf | exact ext.tr hk (by assumption)) (by have e := dl1 (c := 5) (i := i3) (by assumption) (by decide); omega) (by have e := dl1 (c := 5) (i := i3) (by assumption) (by decide); omega) (by have e := dl1 (c := 5) (i := i3) (by assumption) (by decide); omega) (by have e := dl1 (c := 5) (i := i3) (by assumption) (by decide); omega)
      | with_reducible exact dgk (by assumption) km
      | with_reducible exact dgm (by assumption) mm
      | with_reducible refine sX3_add (fun _ => ?_)
      | with_reducible refine sX3_houseNow (hM.ext' (by first | assumption | exact ext.rf | exact ext.tr hk (by assumption))) (by assumption) (by assumption) (fun _ _ _ => ?_)
      | with_reducible refine sX3_whoNow (hM.ext' (by first | assumption | exact ext.rf | exact ext.tr hk (by assumption))) (by assumption) (by first | assumption | exact lt87 (by assumption)) (fun _ => ?_)
      | with_reducible refine sX3_whichNow_ (hM.ext' (by first | assumption | exact ext.rf | exact ext.tr hk (by assumption))) (fun _ => ?_)
      | with_reducible refine sX3_pileNowM (hM.ext' (by first | assumption | exact ext.rf | exact ext.tr hk (by assumption))) (by decide) (by decide) (by assumption) (by assumption) (fun _ _ _ => ?_)
      | with_reducible refine sX3_isBareM (hM.ext' (by first | assumption | exact ext.rf | exact ext.tr hk (by assumption))) (by assumption) (by first | assumption | exact lt65 (by assumption)) ?_ (fun _ _ => ?_)
      | with_reducible refine sX3_likesNow (hM.ext' (by first | assumption | exact ext.rf | exact ext.tr hk (by assumption))) (by assumption) (by assumption) (by first | assumption | exact lt65 (by assumption)) (fun _ => ?_)
      | with_reducible refine sX3_seekNowM (hM.ext' (by first | assumption | exact ext.rf | exact ext.tr hk (by assumption))) (by assumption) (by assumption) (by first | assumption | exact lt65 (by assumption)) (fun _ _ _ _ => ?_)
      | with_reducible refine sX3_oftenNow (hM.ext' (by first | assumption | exact ext.rf | exact ext.tr hk (by assumption))) (by assumption) (by assumption) (by first | assumption | exact lt65 (by assumption)) (fun _ _ _ => ?_)
      | with_reducible refine sX3_high (fun _ => ?_)
      | with_reducible refine sX3_low (fun _ => ?_)
      | with_reducible refine sX3_one (fun _ => ?_)
      | with_reducible refine sX3_fixedV (by first | assumption | exact CAt.row (by assumption) | exact isRow.ext (CAt.row (by assumption)) (by assumption)) (fun _ => ?_)
      | with_reducible refine sX3_smallV (by first | assumption | exact CAt.row (by assumption) | exact isRow.ext (CAt.row (by assumption)) (by assumption)) (fun _ => ?_)
      | with_reducible refine sX3_aroundNow (by first | assumption | exact CAt.row (by assumption) | exact isRow.ext (CAt.row (by assumption)) (by assumption)) (by assumption) (by first | assumption | exact lt43 (by assumption)) (fun _ => ?_)
      | with_reducible refine sX3_whichNow (by first | assumption | exact CAt.row (by assumption) | exact isRow.ext (CAt.row (by assumption)) (by assumption)) (fun _ => ?_)
      | with_reducible refine go_Y (hM.ext' (by first | assumption | exact ext.rf | exact ext.tr hk (by assumption))) (fun _ _ _ _ _ _ => ?_)
      | with_reducible refine gl_M (hM.ext' (by first | assumption | exact ext.rf | exact ext.tr hk (by assumption))) ?_
      | with_reducible exact vpi8 (by assumption) (by assumption)
      | with_reducible exact vpi4l (by assumption) (by assumption)
      | with_reducible exact gtC (hM.ext' (by first | assumption | exact ext.rf | exact ext.tr hk (by assumption))) (by assumption)
      | with_reducible refine sGetY (by assumption) (by assumption) (by assumption) (by first | assumption | exact lt65 (by assumption)) ?_
      | with_reducible exact isRow.ca (by first | assumption | exact CAt.row (by assumption) | exact isRow.ext (CAt.row (by assumption)) (by assumption))
      | with_reducible refine gl_Row (by first | assumption | exact CAt.row (by assumption) | exact isRow.ext (CAt.row (by assumption)) (by assumption)) (fun _ => ?_)
      | with_reducible exact hQ _ _ ((by first | assumption | exact ext.rf | exact ext.tr hk (by assumption)))
      | simp only [eX3_digest_341, eX3_digest_342, eX3_digest_345, eX3_digest_346, eX3_digest_346N, eX3_digest_347, eX3_digest_348, eX3_digest_349, eX3_digest_352, eX3_digest_353, eX3_digest_356, eX3_digest_357, eX3_digest_360, eX3_digest_363, eX3_digest_364, eX3_digest_365, eX3_digest_368, ite_le, n45, n54, true_or, or_true, false_or, or_false, false_and, and_false, kx_l, kx_r, go_s, gl_s, gi_s, gb_s2, gb_s3, gq_s, wt_nil, wt_int, wt_long, wt_ref, wt_null, nl_int, nl_long, nl_ref, nl_null, nl_none, rf_n, rf_s, rf_st, tl_s, tl_n, g0, gS, ex1, nb_b, nb_0, nb_1, nf_i, nf_l, nf_ra, nf_ro, nf_na, nf_no, nf_b0, nf_z0, t45_4, t45_5, true_and, and_true, List.set_cons_zero, List.set_cons_succ, List.length_cons, List.length_nil, rd_s, upw_s, ne_eq, not_false_eq_true, Nat.zero_add, Nat.add_zero, if_true, if_false, eq_self, m10]
      | split
      | with_reducible intro _
      | omega
set_option maxHeartbeats 8000000 in
theorem elX3_digest_316 (hM : MM g w0 y nM kd w) (hQ : ∀ (v : Int64) w', ext g w w' → Q (.inl (some (.long v))) w') : ∀ (d : Nat) (i1 : Int64) (i3 : Int32) (o4 o5 : Option Value) (w' : Hw) (k m : Nat), ¬ i3 < 0 → ext g w w' → 3 - i3.toInt ≤ (d : Int) → i3.toInt ≤ 3 → (k : Int) ≤ 16 → (m : Int) ≤ 69 → WP (MX3_digest g) Q (316, [some (.ref y), some (.long i1), none, some (.int i3), o4, o5], [], w', k, m) := by
  have zb : (2 : Int32).toInt = 2 := rfl
  intro d
  induction d with
  | zero =>
    intro i1 i3 o4 o5 w' k m z0 hk hm hi km mm
    rw [eX3_digest_316]
    repeat' first
      | with_reducible assumption
      | with_reducible refine And.intro ?_ ?_
      | with_reducible exact (by exfalso; have e := dl1 (c := 2) (i := i3) (by assumption) (by decide); omega)
      | with_reducible exact elX3_digest_340 hM hQ 70 _ _ _ _ _ _ _ (by decide) hk (by decide) (by decide) (by have z := i0z; omega) (by have z := i0z; omega)
      | with_reducible refine sX3_add (fun _ => ?_)
      | with_reducible refine sX3_houseNow (hM.ext' (by first | assumption | exact ext.rf | exact ext.tr hk (by assumption))) (by assumption) (by assumption) (fun _ _ _ => ?_)
      | with_reducible refine sX3_whoNow (hM.ext' (by first | assumption | exact ext.rf | exact ext.tr hk (by assumption))) (by assumption) (by first | assumption | exact lt87 (by assumption)) (fun _ => ?_)
      | with_reducible refine sX3_whichNow_ (hM.ext' (by first | assumption | exact ext.rf | exact ext.tr hk (by assumption))) (fun _ => ?_)
      | with_reducible refine sX3_pileNowM (hM.ext' (by first | assumption | exact ext.rf | exact ext.tr hk (by assumption))) (by decide) (by decide) (by assumption) (by assumption) (fun _ _ _ => ?_)
      | with_reducible refine sX3_isBareM (hM.ext' (by first | assumption | exact ext.rf | exact ext.tr hk (by assumption))) (by assumption) (by first | assumption | exact lt65 (by assumption)) ?_ (fun _ _ => ?_)
      | with_reducible refine sX3_likesNow (hM.ext' (by first | assumption | exact ext.rf | exact ext.tr hk (by assumption))) (by assumption) (by assumption) (by first | assumption | exact lt65 (by assumption)) (fun _ => ?_)
      | with_reducible refine sX3_seekNowM (hM.ext' (by first | assumption | exact ext.rf | exact ext.tr hk (by assumption))) (by assumption) (by assumption) (by first | assumption | exact lt65 (by assumption)) (fun _ _ _ _ => ?_)
      | with_reducible refine sX3_oftenNow (hM.ext' (by first | assumption | exact ext.rf | exact ext.tr hk (by assumption))) (by assumption) (by assumption) (by first | assumption | exact lt65 (by assumption)) (fun _ _ _ => ?_)
      | with_reducible refine sX3_high (fun _ => ?_)
      | with_reducible refine sX3_low (fun _ => ?_)
      | with_reducible refine sX3_one (fun _ => ?_)
      | with_reducible refine sX3_fixedV (by first | assumption | exact CAt.row (by assumption) | exact isRow.ext (CAt.row (by assumption)) (by assumption)) (fun _ => ?_)
      | with_reducible refine sX3_smallV (by first | assumption | exact CAt.row (by assumption) | exact isRow.ext (CAt.row (by assumption)) (by assumption)) (fun _ => ?_)
      | with_reducible refine sX3_aroundNow (by first | assumption | exact CAt.row (by assumption) | exact isRow.ext (CAt.row (by assumption)) (by assumption)) (by assumption) (by first | assumption | exact lt43 (by assumption)) (fun _ => ?_)
      | with_reducible refine sX3_whichNow (by first | assumption | exact CAt.row (by assumption) | exact isRow.ext (CAt.row (by assumption)) (by assumption)) (fun _ => ?_)
      | with_reducible refine go_Y (hM.ext' (by first | assumption | exact ext.rf | exact ext.tr hk (by assumption))) (fun _ _ _ _ _ _ => ?_)
      | with_reducible refine gl_M (hM.ext' (by first | assumption | exact ext.rf | exact ext.tr hk (by assumption))) ?_
      | with_reducible exact vpi8 (by assumption) (by assumption)
      | with_reducible exact vpi4l (by assumption) (by assumption)
      | with_reducible exact gtC (hM.ext' (by first | assumption | exact ext.rf | exact ext.tr hk (by assumption))) (by assumption)
      | with_reducible refine sGetY (by assumption) (by assumption) (by assumption) (by first | assumption | exact lt65 (by assumption)) ?_
      | with_reducible exact isRow.ca (by first | assumption | exact CAt.row (by assumption) | exact isRow.ext (CAt.row (by assumption)) (by assumption))
      | with_reducible refine gl_Row (by first | assumption | exact CAt.row (by assumption) | exact isRow.ext (CAt.row (by assumption)) (by assumption)) (fun _ => ?_)
      | with_reducible exact hQ _ _ ((by first | assumption | exact ext.rf | exact ext.tr hk (by assumption)))
      | simp only [eX3_digest_317, eX3_digest_318, eX3_digest_321, eX3_digest_322, eX3_digest_322N, eX3_digest_323, eX3_digest_324, eX3_digest_327, eX3_digest_328, eX3_digest_331, eX3_digest_332, eX3_digest_335, eX3_digest_338, eX3_digest_339, ite_le, n45, n54, true_or, or_true, false_or, or_false, false_and, and_false, kx_l, kx_r, go_s, gl_s, gi_s, gb_s2, gb_s3, gq_s, wt_nil, wt_int, wt_long, wt_ref, wt_null, nl_int, nl_long, nl_ref, nl_null, nl_none, rf_n, rf_s, rf_st, tl_s, tl_n, g0, gS, ex1, nb_b, nb_0, nb_1, nf_i, nf_l, nf_ra, nf_ro, nf_na, nf_no, nf_b0, nf_z0, t45_4, t45_5, true_and, and_true, List.set_cons_zero, List.set_cons_succ, List.length_cons, List.length_nil, rd_s, upw_s, ne_eq, not_false_eq_true, Nat.zero_add, Nat.add_zero, if_true, if_false, eq_self, m10]
      | split
      | with_reducible intro _
      | omega
  | succ d ih =>
    intro i1 i3 o4 o5 w' k m z0 hk hm hi km mm
    rw [eX3_digest_316]
    repeat' first
      | with_reducible assumption
      | with_reducible refine And.intro ?_ ?_
      | with_reducible exact ih _ _ _ _ _ _ _ (ic_pl (by assumption) (by assumption) (by decide)) (by first | assumption | exact ext.rf | exact ext.tr hk (by assumption)) (by have e := dl1 (c := 2) (i := i3) (by assumption) (by decide); omega) (by have e := dl1 (c := 2) (i := i3) (by assumption) (by decide); omega) (by have e := dl1 (c := 2) (i := i3) (by assumption) (by decide); omega) (by have e := dl1 (c := 2) (i := i3) (by assumption) (by decide); omega)
      | with_reducible exact elX3_digest_340 hM hQ 70 _ _ _ _ _ _ _ (by decide) hk (by decide) (by decide) (by have z := i0z; omega) (by have z := i0z; omega)
      | with_reducible refine sX3_add (fun _ => ?_)
      | with_reducible refine sX3_houseNow (hM.ext' (by first | assumption | exact ext.rf | exact ext.tr hk (by assumption))) (by assumption) (by assumption) (fun _ _ _ => ?_)
      | with_reducible refine sX3_whoNow (hM.ext' (by first | assumption | exact ext.rf | exact ext.tr hk (by assumption))) (by assumption) (by first | assumption | exact lt87 (by assumption)) (fun _ => ?_)
      | with_reducible refine sX3_whichNow_ (hM.ext' (by first | assumption | exact ext.rf | exact ext.tr hk (by assumption))) (fun _ => ?_)
      | with_reducible refine sX3_pileNowM (hM.ext' (by first | assumption | exact ext.rf | exact ext.tr hk (by assumption))) (by decide) (by decide) (by assumption) (by assumption) (fun _ _ _ => ?_)
      | with_reducible refine sX3_isBareM (hM.ext' (by first | assumption | exact ext.rf | exact ext.tr hk (by assumption))) (by assumption) (by first | assumption | exact lt65 (by assumption)) ?_ (fun _ _ => ?_)
      | with_reducible refine sX3_likesNow (hM.ext' (by first | assumption | exact ext.rf | exact ext.tr hk (by assumption))) (by assumption) (by assumption) (by first | assumption | exact lt65 (by assumption)) (fun _ => ?_)
      | with_reducible refine sX3_seekNowM (hM.ext' (by first | assumption | exact ext.rf | exact ext.tr hk (by assumption))) (by assumption) (by assumption) (by first | assumption | exact lt65 (by assumption)) (fun _ _ _ _ => ?_)
      | with_reducible refine sX3_oftenNow (hM.ext' (by first | assumption | exact ext.rf | exact ext.tr hk (by assumption))) (by assumption) (by assumption) (by first | assumption | exact lt65 (by assumption)) (fun _ _ _ => ?_)
      | with_reducible refine sX3_high (fun _ => ?_)
      | with_reducible refine sX3_low (fun _ => ?_)
      | with_reducible refine sX3_one (fun _ => ?_)
      | with_reducible refine sX3_fixedV (by first | assumption | exact CAt.row (by assumption) | exact isRow.ext (CAt.row (by assumption)) (by assumption)) (fun _ => ?_)
      | with_reducible refine sX3_smallV (by first | assumption | exact CAt.row (by assumption) | exact isRow.ext (CAt.row (by assumption)) (by assumption)) (fun _ => ?_)
      | with_reducible refine sX3_aroundNow (by first | assumption | exact CAt.row (by assumption) | exact isRow.ext (CAt.row (by assumption)) (by assumption)) (by assumption) (by first | assumption | exact lt43 (by assumption)) (fun _ => ?_)
      | with_reducible refine sX3_whichNow (by first | assumption | exact CAt.row (by assumption) | exact isRow.ext (CAt.row (by assumption)) (by assumption)) (fun _ => ?_)
      | with_reducible refine go_Y (hM.ext' (by first | assumption | exact ext.rf | exact ext.tr hk (by assumption))) (fun _ _ _ _ _ _ => ?_)
      | with_reducible refine gl_M (hM.ext' (by first | assumption | exact ext.rf | exact ext.tr hk (by assumption))) ?_
      | with_reducible exact vpi8 (by assumption) (by assumption)
      | with_reducible exact vpi4l (by assumption) (by assumption)
      | with_reducible exact gtC (hM.ext' (by first | assumption | exact ext.rf | exact ext.tr hk (by assumption))) (by assumption)
      | with_reducible refine sGetY (by assumption) (by assumption) (by assumption) (by first | assumption | exact lt65 (by assumption)) ?_
      | with_reducible exact isRow.ca (by first | assumption | exact CAt.row (by assumption) | exact isRow.ext (CAt.row (by assumption)) (by assumption))
      | with_reducible refine gl_Row (by first | assumption | exact CAt.row (by assumption) | exact isRow.ext (CAt.row (by assumption)) (by assumption)) (fun _ => ?_)
      | with_reducible exact hQ _ _ ((by first | assumption | exact ext.rf | exact ext.tr hk (by assumption)))
      | simp only [eX3_digest_317, eX3_digest_318, eX3_digest_321, eX3_digest_322, eX3_digest_322N, eX3_digest_323, eX3_digest_324, eX3_digest_327, eX3_digest_328, eX3_digest_331, eX3_digest_332, eX3_digest_335, eX3_digest_338, eX3_digest_339, ite_le, n45, n54, true_or, or_true, false_or, or_false, false_and, and_false, kx_l, kx_r, go_s, gl_s, gi_s, gb_s2, gb_s3, gq_s, wt_nil, wt_int, wt_long, wt_ref, wt_null, nl_int, nl_long, nl_ref, nl_null, nl_none, rf_n, rf_s, rf_st, tl_s, tl_n, g0, gS, ex1, nb_b, nb_0, nb_1, nf_i, nf_l, nf_ra, nf_ro, nf_na, nf_no, nf_b0, nf_z0, t45_4, t45_5, true_and, and_true, List.set_cons_zero, List.set_cons_succ, List.length_cons, List.length_nil, rd_s, upw_s, ne_eq, not_false_eq_true, Nat.zero_add, Nat.add_zero, if_true, if_false, eq_self, m10]
      | split
      | with_reducible intro _
      | omega
end
end
